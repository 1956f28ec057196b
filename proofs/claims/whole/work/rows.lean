section
-- ===== PART A: goes FIRST, ahead of the names: the tables' words, and 'selects' of the private methods out of them =====
/-- a private method of a class that the tables say can be made, by its rows of tables_1 -/
def lw_okq (q : MethodName × Nat) : Prop := (q.1.cls ≠ "java/lang/invoke/MethodHandle" ∧ q.1.cls ≠ "java/lang/invoke/VarHandle") ∧ Cond.instantiable q.1.cls q.2 ∈ tables_1 ∧ Cond.privateMethod q.1 ∈ tables_1 ∧ Cond.instanceMethod q.1 ∈ tables_1
theorem lw_p0 : lw_okq (⟨"java/util/ArrayList", "add", "(Ljava/lang/Object;[Ljava/lang/Object;I)V"⟩, 3) := ⟨⟨by decide +kernel, by decide +kernel⟩, List.mem_of_getElem? (i := 35) (by decide +kernel), List.mem_of_getElem? (i := 123) (by decide +kernel), List.mem_of_getElem? (i := 124) (by decide +kernel)⟩
theorem lw_p1 : lw_okq (⟨"java/util/ArrayList", "grow", "()[Ljava/lang/Object;"⟩, 3) := ⟨⟨by decide +kernel, by decide +kernel⟩, List.mem_of_getElem? (i := 35) (by decide +kernel), List.mem_of_getElem? (i := 127) (by decide +kernel), List.mem_of_getElem? (i := 128) (by decide +kernel)⟩
theorem lw_p2 : lw_okq (⟨"java/util/ArrayList", "grow", "(I)[Ljava/lang/Object;"⟩, 3) := ⟨⟨by decide +kernel, by decide +kernel⟩, List.mem_of_getElem? (i := 35) (by decide +kernel), List.mem_of_getElem? (i := 131) (by decide +kernel), List.mem_of_getElem? (i := 132) (by decide +kernel)⟩
theorem lw_p3 : lw_okq (⟨"KerbHours", "streetOf", "(I)LKerbHours$Street;"⟩, 8) := ⟨⟨by decide +kernel, by decide +kernel⟩, List.mem_of_getElem? (i := 27) (by decide +kernel), List.mem_of_getElem? (i := 213) (by decide +kernel), List.mem_of_getElem? (i := 214) (by decide +kernel)⟩
theorem lw_p4 : lw_okq (⟨"java/lang/Throwable", "fillInStackTrace", "(I)Ljava/lang/Throwable;"⟩, 6) := ⟨⟨by decide +kernel, by decide +kernel⟩, List.mem_of_getElem? (i := 262) (by decide +kernel), List.mem_of_getElem? (i := 260) (by decide +kernel), List.mem_of_getElem? (i := 261) (by decide +kernel)⟩
theorem lw_p5 : lw_okq (⟨"KerbHours", "signThatCounts", "(III)LKerbHours$Sign;"⟩, 8) := ⟨⟨by decide +kernel, by decide +kernel⟩, List.mem_of_getElem? (i := 27) (by decide +kernel), List.mem_of_getElem? (i := 452) (by decide +kernel), List.mem_of_getElem? (i := 453) (by decide +kernel)⟩
theorem lw_p6 : lw_okq (⟨"KerbHours$Sign", "isUp", "(I)Z"⟩, 11) := ⟨⟨by decide +kernel, by decide +kernel⟩, List.mem_of_getElem? (i := 383) (by decide +kernel), List.mem_of_getElem? (i := 460) (by decide +kernel), List.mem_of_getElem? (i := 461) (by decide +kernel)⟩
theorem lw_p7 : lw_okq (⟨"KerbHours$Sign", "isNoticed", "(I)Z"⟩, 11) := ⟨⟨by decide +kernel, by decide +kernel⟩, List.mem_of_getElem? (i := 383) (by decide +kernel), List.mem_of_getElem? (i := 464) (by decide +kernel), List.mem_of_getElem? (i := 465) (by decide +kernel)⟩
theorem lw_p8 : lw_okq (⟨"KerbHours", "isLeftOut", "(LKerbHours$Sign;II)Z"⟩, 8) := ⟨⟨by decide +kernel, by decide +kernel⟩, List.mem_of_getElem? (i := 27) (by decide +kernel), List.mem_of_getElem? (i := 483) (by decide +kernel), List.mem_of_getElem? (i := 484) (by decide +kernel)⟩
theorem lw_p9 : lw_okq (⟨"KerbHours", "carOf", "(I)LKerbHours$Car;"⟩, 8) := ⟨⟨by decide +kernel, by decide +kernel⟩, List.mem_of_getElem? (i := 27) (by decide +kernel), List.mem_of_getElem? (i := 525) (by decide +kernel), List.mem_of_getElem? (i := 526) (by decide +kernel)⟩
theorem lw_p10 : lw_okq (⟨"KerbHours", "isHomeFull", "(III)Z"⟩, 8) := ⟨⟨by decide +kernel, by decide +kernel⟩, List.mem_of_getElem? (i := 27) (by decide +kernel), List.mem_of_getElem? (i := 531) (by decide +kernel), List.mem_of_getElem? (i := 532) (by decide +kernel)⟩
theorem lw_p11 : lw_okq (⟨"KerbHours", "permitsOf", "(II)I"⟩, 8) := ⟨⟨by decide +kernel, by decide +kernel⟩, List.mem_of_getElem? (i := 27) (by decide +kernel), List.mem_of_getElem? (i := 535) (by decide +kernel), List.mem_of_getElem? (i := 536) (by decide +kernel)⟩
theorem lw_p12 : lw_okq (⟨"KerbHours", "userOf", "(LKerbHours$Car;II)I"⟩, 8) := ⟨⟨by decide +kernel, by decide +kernel⟩, List.mem_of_getElem? (i := 27) (by decide +kernel), List.mem_of_getElem? (i := 584) (by decide +kernel), List.mem_of_getElem? (i := 585) (by decide +kernel)⟩
theorem lw_p13 : lw_okq (⟨"KerbHours", "hasPermit", "(LKerbHours$Car;II)Z"⟩, 8) := ⟨⟨by decide +kernel, by decide +kernel⟩, List.mem_of_getElem? (i := 27) (by decide +kernel), List.mem_of_getElem? (i := 588) (by decide +kernel), List.mem_of_getElem? (i := 589) (by decide +kernel)⟩
theorem lw_p14 : lw_okq (⟨"KerbHours", "isGap", "(III)Z"⟩, 8) := ⟨⟨by decide +kernel, by decide +kernel⟩, List.mem_of_getElem? (i := 27) (by decide +kernel), List.mem_of_getElem? (i := 599) (by decide +kernel), List.mem_of_getElem? (i := 600) (by decide +kernel)⟩
theorem lw_p15 : lw_okq (⟨"KerbHours", "endStand", "(LKerbHours$Stand;)V"⟩, 8) := ⟨⟨by decide +kernel, by decide +kernel⟩, List.mem_of_getElem? (i := 27) (by decide +kernel), List.mem_of_getElem? (i := 642) (by decide +kernel), List.mem_of_getElem? (i := 643) (by decide +kernel)⟩
def lw_privs_1 : List (MethodName × Nat) := [(⟨"java/util/ArrayList", "add", "(Ljava/lang/Object;[Ljava/lang/Object;I)V"⟩, 3), (⟨"java/util/ArrayList", "grow", "()[Ljava/lang/Object;"⟩, 3), (⟨"java/util/ArrayList", "grow", "(I)[Ljava/lang/Object;"⟩, 3), (⟨"KerbHours", "streetOf", "(I)LKerbHours$Street;"⟩, 8), (⟨"java/lang/Throwable", "fillInStackTrace", "(I)Ljava/lang/Throwable;"⟩, 6), (⟨"KerbHours", "signThatCounts", "(III)LKerbHours$Sign;"⟩, 8), (⟨"KerbHours$Sign", "isUp", "(I)Z"⟩, 11), (⟨"KerbHours$Sign", "isNoticed", "(I)Z"⟩, 11), (⟨"KerbHours", "isLeftOut", "(LKerbHours$Sign;II)Z"⟩, 8), (⟨"KerbHours", "carOf", "(I)LKerbHours$Car;"⟩, 8), (⟨"KerbHours", "isHomeFull", "(III)Z"⟩, 8), (⟨"KerbHours", "permitsOf", "(II)I"⟩, 8), (⟨"KerbHours", "userOf", "(LKerbHours$Car;II)I"⟩, 8), (⟨"KerbHours", "hasPermit", "(LKerbHours$Car;II)Z"⟩, 8), (⟨"KerbHours", "isGap", "(III)Z"⟩, 8), (⟨"KerbHours", "endStand", "(LKerbHours$Stand;)V"⟩, 8)]
theorem lw_r1 : ∀ q ∈ lw_privs_1, lw_okq q := List.forall_mem_cons.mpr ⟨lw_p0, List.forall_mem_cons.mpr ⟨lw_p1, List.forall_mem_cons.mpr ⟨lw_p2, List.forall_mem_cons.mpr ⟨lw_p3, List.forall_mem_cons.mpr ⟨lw_p4, List.forall_mem_cons.mpr ⟨lw_p5, List.forall_mem_cons.mpr ⟨lw_p6, List.forall_mem_cons.mpr ⟨lw_p7, List.forall_mem_cons.mpr ⟨lw_p8, List.forall_mem_cons.mpr ⟨lw_p9, List.forall_mem_cons.mpr ⟨lw_p10, List.forall_mem_cons.mpr ⟨lw_p11, List.forall_mem_cons.mpr ⟨lw_p12, List.forall_mem_cons.mpr ⟨lw_p13, List.forall_mem_cons.mpr ⟨lw_p14, List.forall_mem_cons.mpr ⟨lw_p15, fun _ h => absurd h List.not_mem_nil⟩⟩⟩⟩⟩⟩⟩⟩⟩⟩⟩⟩⟩⟩⟩⟩
theorem lw_p16 : lw_okq (⟨"KerbHours", "isOnBlocked", "(LKerbHours$Stand;)Z"⟩, 8) := ⟨⟨by decide +kernel, by decide +kernel⟩, List.mem_of_getElem? (i := 27) (by decide +kernel), List.mem_of_getElem? (i := 689) (by decide +kernel), List.mem_of_getElem? (i := 690) (by decide +kernel)⟩
theorem lw_p17 : lw_okq (⟨"KerbHours", "judgementOf", "(LKerbHours$Stand;IZ)I"⟩, 8) := ⟨⟨by decide +kernel, by decide +kernel⟩, List.mem_of_getElem? (i := 27) (by decide +kernel), List.mem_of_getElem? (i := 693) (by decide +kernel), List.mem_of_getElem? (i := 694) (by decide +kernel)⟩
theorem lw_p18 : lw_okq (⟨"KerbHours", "isForbidden", "(LKerbHours$Stand;I)Z"⟩, 8) := ⟨⟨by decide +kernel, by decide +kernel⟩, List.mem_of_getElem? (i := 27) (by decide +kernel), List.mem_of_getElem? (i := 697) (by decide +kernel), List.mem_of_getElem? (i := 698) (by decide +kernel)⟩
theorem lw_p19 : lw_okq (⟨"KerbHours", "isPaidFor", "(LKerbHours$Stand;I)Z"⟩, 8) := ⟨⟨by decide +kernel, by decide +kernel⟩, List.mem_of_getElem? (i := 27) (by decide +kernel), List.mem_of_getElem? (i := 705) (by decide +kernel), List.mem_of_getElem? (i := 706) (by decide +kernel)⟩
theorem lw_p20 : lw_okq (⟨"KerbHours", "lookAt", "(LKerbHours$Stand;LKerbHours$Street;)V"⟩, 8) := ⟨⟨by decide +kernel, by decide +kernel⟩, List.mem_of_getElem? (i := 27) (by decide +kernel), List.mem_of_getElem? (i := 720) (by decide +kernel), List.mem_of_getElem? (i := 721) (by decide +kernel)⟩
theorem lw_p21 : lw_okq (⟨"KerbHours", "fineOf", "(I)LKerbHours$Fine;"⟩, 8) := ⟨⟨by decide +kernel, by decide +kernel⟩, List.mem_of_getElem? (i := 27) (by decide +kernel), List.mem_of_getElem? (i := 762) (by decide +kernel), List.mem_of_getElem? (i := 763) (by decide +kernel)⟩
theorem lw_p22 : lw_okq (⟨"KerbHours", "debtOf", "(LKerbHours$Car;)I"⟩, 8) := ⟨⟨by decide +kernel, by decide +kernel⟩, List.mem_of_getElem? (i := 27) (by decide +kernel), List.mem_of_getElem? (i := 797) (by decide +kernel), List.mem_of_getElem? (i := 798) (by decide +kernel)⟩
theorem lw_p23 : lw_okq (⟨"KerbHours", "passQuarter", "()V"⟩, 8) := ⟨⟨by decide +kernel, by decide +kernel⟩, List.mem_of_getElem? (i := 27) (by decide +kernel), List.mem_of_getElem? (i := 824) (by decide +kernel), List.mem_of_getElem? (i := 825) (by decide +kernel)⟩
theorem lw_p24 : lw_okq (⟨"KerbHoursModel", "resets", "()V"⟩, 57) := ⟨⟨by decide +kernel, by decide +kernel⟩, List.mem_of_getElem? (i := 836) (by decide +kernel), List.mem_of_getElem? (i := 842) (by decide +kernel), List.mem_of_getElem? (i := 843) (by decide +kernel)⟩
theorem lw_p25 : lw_okq (⟨"KerbHoursModel", "goes", "(ZZZ)Z"⟩, 57) := ⟨⟨by decide +kernel, by decide +kernel⟩, List.mem_of_getElem? (i := 836) (by decide +kernel), List.mem_of_getElem? (i := 1036) (by decide +kernel), List.mem_of_getElem? (i := 1037) (by decide +kernel)⟩
theorem lw_p26 : lw_okq (⟨"KerbHoursModel", "ruleAt", "(III)I"⟩, 57) := ⟨⟨by decide +kernel, by decide +kernel⟩, List.mem_of_getElem? (i := 836) (by decide +kernel), List.mem_of_getElem? (i := 1062) (by decide +kernel), List.mem_of_getElem? (i := 1063) (by decide +kernel)⟩
theorem lw_p27 : lw_okq (⟨"KerbHoursModel", "holds", "(IIII)Z"⟩, 57) := ⟨⟨by decide +kernel, by decide +kernel⟩, List.mem_of_getElem? (i := 836) (by decide +kernel), List.mem_of_getElem? (i := 1066) (by decide +kernel), List.mem_of_getElem? (i := 1067) (by decide +kernel)⟩
theorem lw_p28 : lw_okq (⟨"KerbHoursModel", "isAhead", "(II)Z"⟩, 57) := ⟨⟨by decide +kernel, by decide +kernel⟩, List.mem_of_getElem? (i := 836) (by decide +kernel), List.mem_of_getElem? (i := 1073) (by decide +kernel), List.mem_of_getElem? (i := 1074) (by decide +kernel)⟩
theorem lw_p29 : lw_okq (⟨"KerbHoursModel", "isCar", "(I)Z"⟩, 57) := ⟨⟨by decide +kernel, by decide +kernel⟩, List.mem_of_getElem? (i := 836) (by decide +kernel), List.mem_of_getElem? (i := 1090) (by decide +kernel), List.mem_of_getElem? (i := 1091) (by decide +kernel)⟩
theorem lw_p30 : lw_okq (⟨"KerbHoursModel", "hasRoom", "(III)Z"⟩, 57) := ⟨⟨by decide +kernel, by decide +kernel⟩, List.mem_of_getElem? (i := 836) (by decide +kernel), List.mem_of_getElem? (i := 1094) (by decide +kernel), List.mem_of_getElem? (i := 1095) (by decide +kernel)⟩
theorem lw_p31 : lw_okq (⟨"KerbHoursModel", "ofHome", "(II)I"⟩, 57) := ⟨⟨by decide +kernel, by decide +kernel⟩, List.mem_of_getElem? (i := 836) (by decide +kernel), List.mem_of_getElem? (i := 1098) (by decide +kernel), List.mem_of_getElem? (i := 1099) (by decide +kernel)⟩
def lw_privs_2 : List (MethodName × Nat) := [(⟨"KerbHours", "isOnBlocked", "(LKerbHours$Stand;)Z"⟩, 8), (⟨"KerbHours", "judgementOf", "(LKerbHours$Stand;IZ)I"⟩, 8), (⟨"KerbHours", "isForbidden", "(LKerbHours$Stand;I)Z"⟩, 8), (⟨"KerbHours", "isPaidFor", "(LKerbHours$Stand;I)Z"⟩, 8), (⟨"KerbHours", "lookAt", "(LKerbHours$Stand;LKerbHours$Street;)V"⟩, 8), (⟨"KerbHours", "fineOf", "(I)LKerbHours$Fine;"⟩, 8), (⟨"KerbHours", "debtOf", "(LKerbHours$Car;)I"⟩, 8), (⟨"KerbHours", "passQuarter", "()V"⟩, 8), (⟨"KerbHoursModel", "resets", "()V"⟩, 57), (⟨"KerbHoursModel", "goes", "(ZZZ)Z"⟩, 57), (⟨"KerbHoursModel", "ruleAt", "(III)I"⟩, 57), (⟨"KerbHoursModel", "holds", "(IIII)Z"⟩, 57), (⟨"KerbHoursModel", "isAhead", "(II)Z"⟩, 57), (⟨"KerbHoursModel", "isCar", "(I)Z"⟩, 57), (⟨"KerbHoursModel", "hasRoom", "(III)Z"⟩, 57), (⟨"KerbHoursModel", "ofHome", "(II)I"⟩, 57)]
theorem lw_r2 : ∀ q ∈ lw_privs_2, lw_okq q := List.forall_mem_cons.mpr ⟨lw_p16, List.forall_mem_cons.mpr ⟨lw_p17, List.forall_mem_cons.mpr ⟨lw_p18, List.forall_mem_cons.mpr ⟨lw_p19, List.forall_mem_cons.mpr ⟨lw_p20, List.forall_mem_cons.mpr ⟨lw_p21, List.forall_mem_cons.mpr ⟨lw_p22, List.forall_mem_cons.mpr ⟨lw_p23, List.forall_mem_cons.mpr ⟨lw_p24, List.forall_mem_cons.mpr ⟨lw_p25, List.forall_mem_cons.mpr ⟨lw_p26, List.forall_mem_cons.mpr ⟨lw_p27, List.forall_mem_cons.mpr ⟨lw_p28, List.forall_mem_cons.mpr ⟨lw_p29, List.forall_mem_cons.mpr ⟨lw_p30, List.forall_mem_cons.mpr ⟨lw_p31, fun _ h => absurd h List.not_mem_nil⟩⟩⟩⟩⟩⟩⟩⟩⟩⟩⟩⟩⟩⟩⟩⟩
theorem lw_p32 : lw_okq (⟨"KerbHoursModel", "userOn", "(III)I"⟩, 57) := ⟨⟨by decide +kernel, by decide +kernel⟩, List.mem_of_getElem? (i := 836) (by decide +kernel), List.mem_of_getElem? (i := 1110) (by decide +kernel), List.mem_of_getElem? (i := 1111) (by decide +kernel)⟩
theorem lw_p33 : lw_okq (⟨"KerbHoursModel", "isGap", "(III)Z"⟩, 57) := ⟨⟨by decide +kernel, by decide +kernel⟩, List.mem_of_getElem? (i := 836) (by decide +kernel), List.mem_of_getElem? (i := 1118) (by decide +kernel), List.mem_of_getElem? (i := 1119) (by decide +kernel)⟩
theorem lw_p34 : lw_okq (⟨"KerbHoursModel", "judgedNow", "(I)I"⟩, 57) := ⟨⟨by decide +kernel, by decide +kernel⟩, List.mem_of_getElem? (i := 836) (by decide +kernel), List.mem_of_getElem? (i := 1138) (by decide +kernel), List.mem_of_getElem? (i := 1139) (by decide +kernel)⟩
theorem lw_p35 : lw_okq (⟨"KerbHoursModel", "isBlockedAt", "(I)Z"⟩, 57) := ⟨⟨by decide +kernel, by decide +kernel⟩, List.mem_of_getElem? (i := 836) (by decide +kernel), List.mem_of_getElem? (i := 1142) (by decide +kernel), List.mem_of_getElem? (i := 1143) (by decide +kernel)⟩
theorem lw_p36 : lw_okq (⟨"KerbHoursModel", "judged", "(IIIII)I"⟩, 57) := ⟨⟨by decide +kernel, by decide +kernel⟩, List.mem_of_getElem? (i := 836) (by decide +kernel), List.mem_of_getElem? (i := 1146) (by decide +kernel), List.mem_of_getElem? (i := 1147) (by decide +kernel)⟩
theorem lw_p37 : lw_okq (⟨"KerbHoursModel", "isForbidden", "(IIII)Z"⟩, 57) := ⟨⟨by decide +kernel, by decide +kernel⟩, List.mem_of_getElem? (i := 836) (by decide +kernel), List.mem_of_getElem? (i := 1150) (by decide +kernel), List.mem_of_getElem? (i := 1151) (by decide +kernel)⟩
theorem lw_p38 : lw_okq (⟨"KerbHoursModel", "isCovered", "(III)Z"⟩, 57) := ⟨⟨by decide +kernel, by decide +kernel⟩, List.mem_of_getElem? (i := 836) (by decide +kernel), List.mem_of_getElem? (i := 1154) (by decide +kernel), List.mem_of_getElem? (i := 1155) (by decide +kernel)⟩
theorem lw_p39 : lw_okq (⟨"KerbHoursModel", "hasFine", "(I)Z"⟩, 57) := ⟨⟨by decide +kernel, by decide +kernel⟩, List.mem_of_getElem? (i := 836) (by decide +kernel), List.mem_of_getElem? (i := 1162) (by decide +kernel), List.mem_of_getElem? (i := 1163) (by decide +kernel)⟩
theorem lw_p40 : lw_okq (⟨"KerbHoursModel", "gives", "(II)V"⟩, 57) := ⟨⟨by decide +kernel, by decide +kernel⟩, List.mem_of_getElem? (i := 836) (by decide +kernel), List.mem_of_getElem? (i := 1166) (by decide +kernel), List.mem_of_getElem? (i := 1167) (by decide +kernel)⟩
theorem lw_p41 : lw_okq (⟨"KerbHoursModel", "isFine", "(I)Z"⟩, 57) := ⟨⟨by decide +kernel, by decide +kernel⟩, List.mem_of_getElem? (i := 836) (by decide +kernel), List.mem_of_getElem? (i := 1174) (by decide +kernel), List.mem_of_getElem? (i := 1175) (by decide +kernel)⟩
theorem lw_p42 : lw_okq (⟨"KerbHoursModel", "amount", "(I)I"⟩, 57) := ⟨⟨by decide +kernel, by decide +kernel⟩, List.mem_of_getElem? (i := 836) (by decide +kernel), List.mem_of_getElem? (i := 1182) (by decide +kernel), List.mem_of_getElem? (i := 1183) (by decide +kernel)⟩
theorem lw_p43 : lw_okq (⟨"KerbHoursModel", "debtOf", "(I)I"⟩, 57) := ⟨⟨by decide +kernel, by decide +kernel⟩, List.mem_of_getElem? (i := 836) (by decide +kernel), List.mem_of_getElem? (i := 1194) (by decide +kernel), List.mem_of_getElem? (i := 1195) (by decide +kernel)⟩
theorem lw_p44 : lw_okq (⟨"KerbHoursModel", "takenIn", "(I)I"⟩, 57) := ⟨⟨by decide +kernel, by decide +kernel⟩, List.mem_of_getElem? (i := 836) (by decide +kernel), List.mem_of_getElem? (i := 1206) (by decide +kernel), List.mem_of_getElem? (i := 1207) (by decide +kernel)⟩
theorem lw_p45 : lw_okq (⟨"KerbHoursModel", "begins", "(I)V"⟩, 57) := ⟨⟨by decide +kernel, by decide +kernel⟩, List.mem_of_getElem? (i := 836) (by decide +kernel), List.mem_of_getElem? (i := 1214) (by decide +kernel), List.mem_of_getElem? (i := 1215) (by decide +kernel)⟩
def lw_privs_3 : List (MethodName × Nat) := [(⟨"KerbHoursModel", "userOn", "(III)I"⟩, 57), (⟨"KerbHoursModel", "isGap", "(III)Z"⟩, 57), (⟨"KerbHoursModel", "judgedNow", "(I)I"⟩, 57), (⟨"KerbHoursModel", "isBlockedAt", "(I)Z"⟩, 57), (⟨"KerbHoursModel", "judged", "(IIIII)I"⟩, 57), (⟨"KerbHoursModel", "isForbidden", "(IIII)Z"⟩, 57), (⟨"KerbHoursModel", "isCovered", "(III)Z"⟩, 57), (⟨"KerbHoursModel", "hasFine", "(I)Z"⟩, 57), (⟨"KerbHoursModel", "gives", "(II)V"⟩, 57), (⟨"KerbHoursModel", "isFine", "(I)Z"⟩, 57), (⟨"KerbHoursModel", "amount", "(I)I"⟩, 57), (⟨"KerbHoursModel", "debtOf", "(I)I"⟩, 57), (⟨"KerbHoursModel", "takenIn", "(I)I"⟩, 57), (⟨"KerbHoursModel", "begins", "(I)V"⟩, 57)]
theorem lw_r3 : ∀ q ∈ lw_privs_3, lw_okq q := List.forall_mem_cons.mpr ⟨lw_p32, List.forall_mem_cons.mpr ⟨lw_p33, List.forall_mem_cons.mpr ⟨lw_p34, List.forall_mem_cons.mpr ⟨lw_p35, List.forall_mem_cons.mpr ⟨lw_p36, List.forall_mem_cons.mpr ⟨lw_p37, List.forall_mem_cons.mpr ⟨lw_p38, List.forall_mem_cons.mpr ⟨lw_p39, List.forall_mem_cons.mpr ⟨lw_p40, List.forall_mem_cons.mpr ⟨lw_p41, List.forall_mem_cons.mpr ⟨lw_p42, List.forall_mem_cons.mpr ⟨lw_p43, List.forall_mem_cons.mpr ⟨lw_p44, List.forall_mem_cons.mpr ⟨lw_p45, fun _ h => absurd h List.not_mem_nil⟩⟩⟩⟩⟩⟩⟩⟩⟩⟩⟩⟩⟩⟩
def lw_privs : List (MethodName × Nat) := lw_privs_1 ++ (lw_privs_2 ++ (lw_privs_3))
def lw_tbl : List Cond := k2_sels lw_privs ++ tables_1
theorem lw_privs_ok : ∀ q ∈ lw_privs, lw_okq q := by
  show ∀ q ∈ lw_privs_1 ++ (lw_privs_2 ++ (lw_privs_3)), lw_okq q
  exact List.forall_mem_append.mpr ⟨lw_r1, List.forall_mem_append.mpr ⟨lw_r2, lw_r3⟩⟩
end
section
/-! ===== BEGIN words of one list among another's, by their places ===== -/
theorem goodIn_r {big : List Cond} (ws : List Cond) (ps : List Nat) (hp : ws = ps.filterMap (fun i => big[i]?)) (h : ws.all goodWord = true) : GoodIn big ws := by
  intro w hw
  have h1 := List.all_eq_true.mp h w hw
  rw [hp] at hw
  obtain ⟨i, -, hi⟩ := List.mem_filterMap.mp hw
  have hm : w ∈ big := by first | exact List.mem_of_getElem? hi | exact List.getElem?_mem hi
  exact ⟨hm, good_of_word h1⟩
theorem goodIn_app {big a b : List Cond} (ha : GoodIn big a) (hb : GoodIn big b) : GoodIn big (a ++ b) := fun w h => (List.mem_append.mp h).elim (ha w) (hb w)
theorem goodIn_ca {big a b : List Cond} {c : Cond} (ha : GoodIn big (c :: a)) (hb : GoodIn big b) : GoodIn big (c :: (a ++ b)) := fun w h => (List.mem_cons.mp h).elim (fun e => ha w (List.mem_cons.mpr (Or.inl e))) (fun h => (List.mem_append.mp h).elim (fun h => ha w (List.mem_cons.mpr (Or.inr h))) (hb w))
theorem goodIn_sub {big ws : List Cond} (hm : ∀ w ∈ ws, w ∈ big) (h : ws.all goodWord = true) : GoodIn big ws := fun w hw => ⟨hm w hw, good_of_word (List.all_eq_true.mp h w hw)⟩
/-! ===== END ===== -/

/-! ===== BEGIN exceptions that leave a method, and their catching by the caller (launches without stack traces) ===== -/
section VXA
/-! The laws vx_back, vx_callV, vx_callS, vx_callSW, vx_throw0, vx_throwS follow proofs of the library, with one case more: JvmDerived/Free/Laws.lean (Back.of_free), Shelf42/LK1.lean (callV, callS), Shelf/KitTraced.lean (throwNew0V, throwNewS). -/
/-- where a method has thrown q: the class by its name, the cell, what was written, the world -/
def vx_T (XC : String → State → State → Prop) (st : State) (q : Addr) (t : State) (mc ms : Nat) (free : Addr → Prop) : Prop :=
  ∃ (E : String) (ce : Cell) (L : List Loc), XC E st t ∧ t.heap[q]? = some ce ∧ ce.vm = .none ∧ st.vm.findClass E = some ce.cls ∧ st.WarmedH t.vm ∧ st.sameButNew ({ t with vm := st.vm } : State) L mc ms ∧ ∀ z ∈ L, free z.base
def vx_Q (Qc : Array Value → State → Outcome → State → Prop) (XC : String → State → State → Prop) (mc ms : Nat) (free : Addr → Prop) : Array Value → State → Outcome → State → Prop := fun a st o t =>
  (Qc a st o t ∧ ∃ L, FrameEnd st o t L mc ms ∧ ∀ q ∈ L, free q.base) ∨ ∃ q, o = .threw q ∧ vx_T XC st q t mc ms free
/-- a callee that returns or throws -/
def vx_Met (l : Launch) (y : MethodName) (ws : List Cond) (rm : Room) (Pc : Array Value → State → Prop) (Qc : Array Value → State → Outcome → State → Prop) (XC : String → State → State → Prop) (mc ms : Nat) (free : Addr → Prop) : Prop :=
  MetFree l y (headSpec ws rm) Pc (fun _ _ _ _ _ => True) (vx_Q Qc XC mc ms free)
def vx_Post (XC : String → State → State → Prop) (mc ms : Nat) (free : Addr → Prop) : Pt → Array Value → Addr → Pt → Prop := fun A a q B =>
  ∃ (g : JFrame) (mk : MethodId) (t : State) (L : List Loc) (E : String) (ce : Cell), B.U.heap = t.heap ∧ B.U.vm = t.vm ∧ XC E (A.U.calling g mk a) t ∧ t.heap[q]? = some ce ∧ ce.vm = .none ∧ A.U.vm.findClass E = some ce.cls ∧ B.locs = A.locs ++ L ∧ (∀ z ∈ L, free z.base) ∧ B.cells = A.cells + mc ∧ B.slots = A.slots + ms
def vx_Back (l : Launch) (R : Room) (p : Program) (e : Env) (below : List Frame) (s : State) (sargs : Array Value) (y : MethodName) (len W9 : Nat)
    (Pre : Pt → Array Value → Prop) (Post : Pt → Array Value → Option Value → Pt → Prop) (PostX : Pt → Array Value → Addr → Pt → Prop) : Prop :=
  ∀ (m : MethodId) (meth : Method) (c : Code) (A : Pt) (g : JFrame) (ig : Instr) (mk : MethodId) (a : Array Value),
    Stand p l e R s m sargs below meth c A.U A.locs A.cells A.slots → g.method = m → g.locals.size = c.maxLocals → decode c.code g.pc = .ok (ig, len) →
    2 * g.monitorRoom + (g.stack.map fun v => v.category).sum ≤ W9 → A.U.methodNamed? y = some mk → Pre A a →
    (∃ (v : Option Value) (B : Pt), Stand p l e R s m sargs below meth c B.U B.locs B.cells B.slots ∧ Post A a v B ∧
      Steps p.tables e below (doInvoke e (A.U.setTop g) [] mk a).1 (B.U.setTop { g with pc := g.pc + len, stack := v.toList ++ g.stack })) ∨
    (∃ (q : Addr) (B : Pt), Stand p l e R s m sargs below meth c B.U B.locs B.cells B.slots ∧ PostX A a q B ∧
      Steps p.tables e below (doInvoke e (A.U.setTop g) [] mk a).1 ((B.U.setTop g).pushFrame (.throwing q)))
section Payer
variable {l : Launch} {R : Room} {p : Program} {e : Env} {below : List Frame} {s : State} {sargs : Array Value} {y : MethodName} {len W9 : Nat}
theorem vx_back {ws : List Cond} {rm : Room} {Pc : Array Value → State → Prop} {Qc : Array Value → State → Outcome → State → Prop} {XC : String → State → State → Prop} {mc ms : Nat} {free : Addr → Prop} {bytes : ByteArray} {maxL : Nat} {ret : Option FieldType}
    (hM : vx_Met l y ws rm Pc Qc XC mc ms free) (hblind : FrameBlind Pc) (hrc : rm.cells = mc) (hrs : rm.slots = ms)
    (hframes : rm.frames + 1 ≤ R.frames) (hlocals : W9 + (maxL + 11) + rm.locals ≤ R.locals)
    (hws : ∀ w ∈ ws, ∀ a' U, s.WarmedH U.vm → w.before a' U = true) (hcode : Cond.code y bytes maxL ret ∈ ws) (hinit : ∀ a' U, s.WarmedH U.vm → (Cond.initialized y.cls).before a' U = true) :
    vx_Back l R p e below s sargs y len W9 (PreOf R mc ms Pc) (PostOf Qc mc ms free) (vx_Post XC mc ms free) := by
  intro m meth c A g ig mk a X hg hsize hdg hW hn hp
  have h1 : (headSpec ws rm).pre.before a A.U = true := atoms_intro fun w hw => hws w hw _ _ X.warmed
  have h2 : (Cond.code y bytes maxL ret).before a A.U = true := hws _ hcode _ _ X.warmed
  have h3 : (Cond.initialized y.cls).before a A.U = true := hinit _ _ X.warmed
  have h4 : A.cells + (headSpec ws rm).room.cells ≤ R.cells := by rw [show (headSpec ws rm).room.cells = mc from hrc]; exact hp.1
  have h5 : A.slots + (headSpec ws rm).room.slots ≤ R.slots := by rw [show (headSpec ws rm).room.slots = ms from hrs]; exact hp.2.1
  have hPc : Pc a (A.U.calling g mk a) := hblind _ _ _ _ hp.2.2
  obtain ⟨U, Ls, c0, s0⟩ := A
  dsimp only [Pt.U, Pt.locs, Pt.cells, Pt.slots] at h1 h2 h3 h4 h5 X hn hPc ⊢
  obtain ⟨methY, cY, hmY, hcY, -, hlY, -, -, -, -⟩ := Cond.code_spec hn h2
  obtain ⟨kY, hkY, -⟩ := className_of_methodNamed hn
  have hinitY : kY.init = .initialized := Cond.initialized_spec (findClass_of_methodNamed hn) hkY h3
  have h : At U g.method c below := by rw [hg]; exact X.here
  have hlocals9 : W9 + (maxL + 11) + (headSpec ws rm).room.locals ≤ R.locals := hlocals
  have happ : (headSpec ws rm).appliesLoose y e.platform (U.calling g mk a) = true :=
    Spec.appliesLoose_calling (g := g) h hdg hn hkY hinitY
      (X.room_calling (g := g) (R' := (headSpec ws rm).room) hsize hmY hcY hframes (by rw [hlY]; omega) h4 h5) h1
  obtain ⟨mid, hmid⟩ := h.above
  have hfr : (U.setTop g).frames = (.java g :: mid) ++ below := by rw [State.frames_setTop' g h.top, hmid]; rfl
  obtain ⟨o, s₂, hsteps, -, hend, hq⟩ := Steps.callFree hM p X.admits X.cas X.clock (acts := []) hfr happ hPc trivial
  have hq' : vx_Q Qc XC mc ms free a (U.calling g mk a) o s₂ := hq
  rw [State.frames_setTop' g h.top] at hend
  obtain ⟨g₀, hg0⟩ := Option.isSome_iff_exists.mp h.top
  obtain ⟨r, hr⟩ := State.topJava?_eq_some.mp hg0
  have hr' : (({ U with heap := s₂.heap, slotsUsed := s₂.slotsUsed } : State).setVm s₂.vm).frames = .java g₀ :: r := hr
  rcases hq' with ⟨hqc, L, hfe, hL⟩ | ⟨q, rfl, E, ce, L, hx, hce, hcv, hcl, hW₂, hsm, hL⟩
  · obtain ⟨⟨v, rfl⟩, hW₂, e2, q2, q3, q4, q5, q6⟩ := id hfe
    have e3 : s₂ = ({ (U.calling g mk a).setFrames s₂.frames with heap := s₂.heap, slotsUsed := s₂.slotsUsed } : State).setVm s₂.vm := by
      have : s₂ = ({ s₂ with vm := (U.calling g mk a).vm } : State).setVm s₂.vm := rfl
      rw [e2] at this
      exact this
    obtain ⟨c₂, i₂, len₂, hc₂, hd₂, hf₂⟩ := hend
    have hW' : U.WarmedH s₂.vm := hW₂
    have hcc : c₂ = c := by
      have h1 : s₂.code? g.method = U.code? g.method := by
        rw [State.code?_eq, State.code?_eq, hW'.alike.method?]
      exact Option.some.inj (hc₂.symm.trans (h1.trans h.code))
    subst hcc
    have hlen : len₂ = len := by rw [hdg] at hd₂; cases hd₂; rfl
    subst hlen
    have hs₂ : s₂ = (({ U with heap := s₂.heap, slotsUsed := s₂.slotsUsed } : State).setVm s₂.vm).setTop { g with pc := g.pc + len₂, stack := v.toList ++ g.stack } := by
      refine e3.trans ?_
      rw [hf₂, State.calling_eq h.top, State.setFrames_setFrames, State.setTop_of_frames _ hr', hr]
      rfl
    have hsame : U.sameButNew ({ U with heap := s₂.heap, slotsUsed := s₂.slotsUsed } : State) L mc ms := by
      refine ⟨?_, q2, q3, q4, q5, q6⟩
      obtain ⟨t, ht, -⟩ := State.frames_cons hr
      show ({ U with heap := s₂.heap, slotsUsed := s₂.slotsUsed } : State) = { U.setFrames U.frames with heap := s₂.heap, slotsUsed := s₂.slotsUsed }
      rw [State.setFrames_self ht]
    subst hg
    refine Or.inl ⟨v, ⟨(({ U with heap := s₂.heap, slotsUsed := s₂.slotsUsed } : State).setVm s₂.vm), Ls ++ L, c0 + mc, s0 + ms⟩,
      ⟨X.admits, X.cas, X.clock, X.frames, X.room, X.hears, X.method, X.code, (X.here.setHeapUsed s₂.heap s₂.slotsUsed).setVm hW'.alike, X.tail, State.WarmedH.trans X.warmed hW', X.limits, X.bytes, X.same.trans (hsame.setVm s.vm)⟩,
      ⟨g, mk, s₂, L, rfl, rfl, hqc, rfl, hL, rfl, rfl⟩, ?_⟩
    show Steps p.tables e below _ ((({ U with heap := s₂.heap, slotsUsed := s₂.slotsUsed } : State).setVm s₂.vm).setTop { g with pc := g.pc + len₂, stack := v.toList ++ g.stack })
    rw [← hs₂]
    exact hsteps
  · obtain ⟨e2, q2, q3, q4, q5, q6⟩ := id hsm
    have e3 : s₂ = ({ (U.calling g mk a).setFrames s₂.frames with heap := s₂.heap, slotsUsed := s₂.slotsUsed } : State).setVm s₂.vm := by
      have : s₂ = ({ s₂ with vm := (U.calling g mk a).vm } : State).setVm s₂.vm := rfl
      rw [e2] at this
      exact this
    have hf₂ : s₂.frames = .throwing q :: .java g :: U.frames.tail := hend
    have hW' : U.WarmedH s₂.vm := hW₂
    have hs₂ : s₂ = ((({ U with heap := s₂.heap, slotsUsed := s₂.slotsUsed } : State).setVm s₂.vm).setTop g).pushFrame (.throwing q) := by
      refine e3.trans ?_
      rw [hf₂, State.calling_eq h.top, State.setFrames_setFrames, State.pushFrame, State.frames_setTop _ hr', State.setTop_of_frames _ hr', State.setFrames_setFrames, hr]
      rfl
    have hsame : U.sameButNew ({ U with heap := s₂.heap, slotsUsed := s₂.slotsUsed } : State) L mc ms := by
      refine ⟨?_, q2, q3, q4, q5, q6⟩
      obtain ⟨t, ht, -⟩ := State.frames_cons hr
      show ({ U with heap := s₂.heap, slotsUsed := s₂.slotsUsed } : State) = { U.setFrames U.frames with heap := s₂.heap, slotsUsed := s₂.slotsUsed }
      rw [State.setFrames_self ht]
    subst hg
    refine Or.inr ⟨q, ⟨(({ U with heap := s₂.heap, slotsUsed := s₂.slotsUsed } : State).setVm s₂.vm), Ls ++ L, c0 + mc, s0 + ms⟩,
      ⟨X.admits, X.cas, X.clock, X.frames, X.room, X.hears, X.method, X.code, (X.here.setHeapUsed s₂.heap s₂.slotsUsed).setVm hW'.alike, X.tail, State.WarmedH.trans X.warmed hW', X.limits, X.bytes, X.same.trans (hsame.setVm s.vm)⟩,
      ⟨g, mk, s₂, L, E, ce, rfl, rfl, hx, hce, hcv, hcl, rfl, hL, rfl, rfl⟩, ?_⟩
    show Steps p.tables e below _ (((({ U with heap := s₂.heap, slotsUsed := s₂.slotsUsed } : State).setVm s₂.vm).setTop g).pushFrame (.throwing q))
    rw [← hs₂]
    exact hsteps
end Payer
section Calls
variable {p : Program} {l : Launch} {e : Env} {R : Room} {s : State} {m : MethodId} {args : Array Value} {below : List Frame} {meth : Method} {c : Code} {T : State} {locs : List Loc} {cells slots : Nat}
theorem vx_callV (X : Stand p l e R s m args below meth c T locs cells slots) (hexec : p.tables.exec = Jvm.exec) {own C : String} {index : Nat} {y : MethodName} {bytes : ByteArray} {maxL : Nat} {ret : Option FieldType}
    (hown : s.vm.findClass own = some m.cls) (hlink : (Cond.methodLink own index y).before args s = true) (hinst : (Cond.instanceMethod y).before args s = true) (hsel : (Cond.selects C y y).before args s = true)
    (hcode : (Cond.code y bytes maxL ret).before args s = true) (hy : y.cls ≠ "java/lang/invoke/MethodHandle" ∧ y.cls ≠ "java/lang/invoke/VarHandle")
    {W9 : Nat} {Pre : Pt → Array Value → Prop} {Post : Pt → Array Value → Option Value → Pt → Prop} {PostX : Pt → Array Value → Addr → Pt → Prop} (hK : vx_Back l R p e below s args y 3 W9 Pre Post PostX)
    {b : Addr} {cellB : Cell} (hcell : T.heap[b]? = some cellB) (hobj : cellB.vm.isStatics = false) (hcls : s.vm.findClass C = some cellB.cls)
    {g : JFrame} (hg : g.method = m) (hsize : g.locals.size = c.maxLocals) {argsL rest : List Value} (hlen : ∀ sig, parseMethodDescriptor y.desc = some sig → argsL.length = sig.parameters.length)
    (hstack : g.stack = argsL.reverse ++ .ref b :: rest) (hW : 2 * g.monitorRoom + (rest.map fun v => v.category).sum ≤ W9) (hdg : decode c.code g.pc = .ok (.invokevirtual index, 3))
    (hpre : ∀ vm₁, s.WarmedH vm₁ → Pre ⟨T.setVm vm₁, locs, cells, slots⟩ (Value.ref b :: argsL).toArray) :
    (∃ (v : Option Value) (vm₁ : Vm) (B : Pt), s.WarmedH vm₁ ∧ Stand p l e R s m args below meth c B.U B.locs B.cells B.slots ∧ Post ⟨T.setVm vm₁, locs, cells, slots⟩ (Value.ref b :: argsL).toArray v B ∧
      ∀ target, Steps p.tables e below (B.U.setTop { g with pc := g.pc + 3, stack := v.toList ++ rest }) target → Steps p.tables e below (T.setTop g) target) ∨
    (∃ (q : Addr) (vm₁ : Vm) (B : Pt), s.WarmedH vm₁ ∧ Stand p l e R s m args below meth c B.U B.locs B.cells B.slots ∧ PostX ⟨T.setVm vm₁, locs, cells, slots⟩ (Value.ref b :: argsL).toArray q B ∧
      Steps p.tables e below (T.setTop g) ((B.U.setTop { g with stack := rest }).pushFrame (.throwing q))) := by
  obtain ⟨mk, methM, hnamed, hmethM, hstM, habM⟩ := Cond.instanceMethod_spec hinst
  obtain ⟨methM', cM, hmethM', -, -, -, -, -, -, hsigM⟩ := Cond.code_spec hnamed hcode
  cases hmethM.symm.trans hmethM'
  obtain ⟨c2, r2, m2, q1, q2, q3, q4, kP, hkP, hkPi⟩ := Cond.selects_spec hsel
  cases hcls.symm.trans q1
  cases (State.methodFound?_of_named hnamed hy).symm.trans q2
  cases hnamed.symm.trans q3
  have hselP : selectMethod e.platform s.vm cellB.cls mk = .method mk := by rw [Launch.admits_selectMethod X.admits]; exact q4
  obtain ⟨vm₁, X₁, hstep₁⟩ := X.invokevirtual hexec hown hlink hnamed hmethM hstM hkP hkPi hy (a := b) (cell := cellB) hcell
    (fun z h => by rw [h] at hobj; cases hobj) hselP hmethM habM hkP hkPi (g := g) hg (argsL := argsL) (rest := rest) (hlen _ hsigM) hstack hdg
  rcases hK m meth c ⟨T.setVm vm₁, locs, cells, slots⟩ { g with stack := rest } (.invokevirtual index) mk (Value.ref b :: argsL).toArray X₁ hg hsize hdg hW (X₁.named hnamed) (hpre vm₁ X₁.warmed) with ⟨v, B, X', hpost, hsteps⟩ | ⟨q, B, X', hpost, hsteps⟩
  · exact Or.inl ⟨v, vm₁, B, X₁.warmed, X', hpost, fun target h => hstep₁ _ fun acts => by rw [doInvoke_state]; exact hsteps.trans h⟩
  · exact Or.inr ⟨q, vm₁, B, X₁.warmed, X', hpost, hstep₁ _ fun acts => by rw [doInvoke_state]; exact hsteps⟩
theorem vx_callS (X : Stand p l e R s m args below meth c T locs cells slots) (hexec : p.tables.exec = Jvm.exec) {own : String} {index : Nat} {y : MethodName} {bytes : ByteArray} {maxL : Nat} {ret : Option FieldType}
    (hown : s.vm.findClass own = some m.cls) (hlink : (Cond.methodLink own index y).before args s = true) (hstat : (Cond.static y).before args s = true) (hinit : (Cond.initialized y.cls).before args s = true)
    (hcode : (Cond.code y bytes maxL ret).before args s = true) (hy : y.cls ≠ "java/lang/invoke/MethodHandle" ∧ y.cls ≠ "java/lang/invoke/VarHandle")
    {W9 : Nat} {Pre : Pt → Array Value → Prop} {Post : Pt → Array Value → Option Value → Pt → Prop} {PostX : Pt → Array Value → Addr → Pt → Prop} (hK : vx_Back l R p e below s args y 3 W9 Pre Post PostX)
    {g : JFrame} (hg : g.method = m) (hsize : g.locals.size = c.maxLocals) {argsL rest : List Value} (hlen : ∀ sig, parseMethodDescriptor y.desc = some sig → argsL.length = sig.parameters.length)
    (hstack : g.stack = argsL.reverse ++ rest) (hW : 2 * g.monitorRoom + (rest.map fun v => v.category).sum ≤ W9) (hdg : decode c.code g.pc = .ok (.invokestatic index, 3))
    (hpre : ∀ vm₁, s.WarmedH vm₁ → Pre ⟨T.setVm vm₁, locs, cells, slots⟩ argsL.toArray) :
    (∃ (v : Option Value) (vm₁ : Vm) (B : Pt), s.WarmedH vm₁ ∧ Stand p l e R s m args below meth c B.U B.locs B.cells B.slots ∧ Post ⟨T.setVm vm₁, locs, cells, slots⟩ argsL.toArray v B ∧
      ∀ target, Steps p.tables e below (B.U.setTop { g with pc := g.pc + 3, stack := v.toList ++ rest }) target → Steps p.tables e below (T.setTop g) target) ∨
    (∃ (q : Addr) (vm₁ : Vm) (B : Pt), s.WarmedH vm₁ ∧ Stand p l e R s m args below meth c B.U B.locs B.cells B.slots ∧ PostX ⟨T.setVm vm₁, locs, cells, slots⟩ argsL.toArray q B ∧
      Steps p.tables e below (T.setTop g) ((B.U.setTop { g with stack := rest }).pushFrame (.throwing q))) := by
  obtain ⟨mk, hnamed⟩ := Cond.code_named hcode
  obtain ⟨methM, cM, hmethM, -, -, -, -, -, -, hsigM⟩ := Cond.code_spec hnamed hcode
  have hstatic : methM.isStatic = true := Cond.static_spec hnamed hmethM hstat
  obtain ⟨kP, hkP, -⟩ := className_of_methodNamed hnamed
  have hinitP : kP.init = .initialized := Cond.initialized_spec (findClass_of_methodNamed hnamed) hkP hinit
  obtain ⟨vm₁, X₁, hstep₁⟩ := X.invokestatic hexec hown hlink hnamed hmethM hstatic hkP hinitP hy (g := g) hg (argsL := argsL) (rest := rest) (hlen _ hsigM) hstack hdg
  rcases hK m meth c ⟨T.setVm vm₁, locs, cells, slots⟩ { g with stack := rest } (.invokestatic index) mk argsL.toArray X₁ hg hsize hdg hW (X₁.named hnamed) (hpre vm₁ X₁.warmed) with ⟨v, B, X', hpost, hsteps⟩ | ⟨q, B, X', hpost, hsteps⟩
  · exact Or.inl ⟨v, vm₁, B, X₁.warmed, X', hpost, fun target h => hstep₁ _ fun acts => by rw [doInvoke_state]; exact hsteps.trans h⟩
  · exact Or.inr ⟨q, vm₁, B, X₁.warmed, X', hpost, hstep₁ _ fun acts => by rw [doInvoke_state]; exact hsteps⟩
end Calls
theorem vx_cls {s : State} {T : State} {vm₁ : Vm} {E : String} {k : ClassId} (hW : s.WarmedH vm₁) (h : (T.setVm vm₁).vm.findClass E = some k) : s.vm.findClass E = some k := by
  have h1 : vm₁.findClass E = some k := h
  rw [hW.alike.findClass] at h1
  exact h1
/-- the method's frame g, with q thrown over it -/
def vx_W (p : Program) (l : Launch) (e : Env) (R : Room) (s : State) (m : MethodId) (args : Array Value) (below : List Frame) (meth : Method) (c : Code) (H : Heap) (locs : List Loc) (cells slots : Nat) (Q : State → Prop) (g : JFrame) (q : Addr) : Prop :=
  ∀ T : State, T.heap = H → Stand p l e R s m args below meth c T locs cells slots → ∃ t, Steps p.tables e below ((T.setTop g).pushFrame (.throwing q)) t ∧ Q t
def vx_Run (p : Program) (l : Launch) (e : Env) (R : Room) (s : State) (m : MethodId) (args : Array Value) (below : List Frame) (meth : Method) (c : Code) (H : Heap) (locs : List Loc) (cells slots mc ms : Nat) (g : JFrame) (rest : List Value) (Qa : State → Outcome → State → Prop) (XC : String → State → State → Prop) (free : Addr → Prop) : Prop :=
  ∀ T : State, T.heap = H → Stand p l e R s m args below meth c T locs cells slots →
    (∃ (v : Option Value) (st₀ t T' : State) (L : List Loc), st₀.heap = H ∧ Stand p l e R s m args below meth c T' (locs ++ L) (cells + mc) (slots + ms) ∧ (∀ q ∈ L, free q.base) ∧ T'.heap = t.heap ∧ T'.vm = t.vm ∧ Qa st₀ (.returned v) t ∧
      Goes p e below T g T' { g with pc := g.pc + 3, stack := v.toList ++ rest }) ∨
    (∃ (q : Addr) (st₀ t T' : State) (L : List Loc) (E : String) (ce : Cell), st₀.heap = H ∧ Stand p l e R s m args below meth c T' (locs ++ L) (cells + mc) (slots + ms) ∧ (∀ z ∈ L, free z.base) ∧ T'.heap = t.heap ∧ T'.vm = t.vm ∧ XC E st₀ t ∧ t.heap[q]? = some ce ∧ ce.vm = .none ∧ s.vm.findClass E = some ce.cls ∧
      Steps p.tables e below (T.setTop g) ((T'.setTop { g with stack := rest }).pushFrame (.throwing q)))
def vx_X {S : Type} (px : S → Prop) (B : String → S → State → Prop) (A : Nat → Prop) : String → State → State → Prop := fun E st t => ∃ u : S, px u ∧ B E u t ∧ va_F A st t
section Runs
variable {p : Program} {l : Launch} {e : Env} {R : Room} {s : State} {m : MethodId} {args : Array Value} {below : List Frame} {meth : Method} {c : Code} {H : Heap} {locs : List Loc} {cells slots : Nat}
variable {y : MethodName} {bytes cc : ByteArray} {maxL nL mc ms n index : Nat} {ret : Option FieldType} {ws : List Cond} {rm : Room} {Pc : Array Value → State → Prop} {Qc : Array Value → State → Outcome → State → Prop} {XC : String → State → State → Prop} {free : Addr → Prop} {Ts : List Cond} {own C : String} {b : Addr} {As rest : List Value} {g : JFrame}
theorem vx_callBack (cb : CallB R s args own index y bytes maxL ret ws rm mc ms n) (hM : vx_Met l y ws rm Pc Qc XC mc ms free) (hbl : FrameBlind Pc) : vx_Back l R p e below s args y 3 8 (PreOf R mc ms Pc) (PostOf Qc mc ms free) (vx_Post XC mc ms free) := by
  obtain ⟨hrc, hrs, hfr, hlo, hws, hcw, -, hini, -⟩ := cb
  exact vx_back (bytes := bytes) (maxL := maxL) (ret := ret) hM hbl hrc hrs hfr hlo hws hcw (fun a' U hW => word_at hW (Or.inl (by first | rfl | simp [Cond.onTables, Cond.keeps, Cond.steady])) hini)
theorem vx_runV (S : CallFix p m c cc nL s args Ts own) (hM : vx_Met l y ws rm Pc Qc XC mc ms free) (cw : CallW R s args own C index y bytes maxL ret ws rm mc ms n) (hp : PreV s H C b Pc As)
    (hg : g.method = m) (hn : As.length = n) (hsize : g.locals.size = nL) (hstack : g.stack = As.reverse ++ .ref b :: rest) (hW : 2 * g.monitorRoom + (rest.map fun v => v.category).sum ≤ 8) (hdg : decode cc g.pc = .ok (.invokevirtual index, 3)) (hf : cells + mc ≤ R.cells ∧ slots + ms ≤ R.slots) :
    vx_Run p l e R s m args below meth c H locs cells slots mc ms g rest (Qc (Value.ref b :: As).toArray) XC free := by
  have hK : vx_Back l R p e below s args y 3 8 (PreOf R mc ms Pc) (PostOf Qc mc ms free) (vx_Post XC mc ms free) := vx_callBack cw.1 hM hp.1
  obtain ⟨⟨-, -, -, -, -, -, hcode, -, hy, hlen, hl⟩, hin, hse⟩ := cw
  obtain ⟨hx, hb, hml, ho, -⟩ := S
  obtain ⟨-, ⟨cellB, hcB, hoB, hclB⟩, hPc⟩ := hp
  intro T hT X
  rcases vx_callV X hx (C := C) (bytes := bytes) (maxL := maxL) (ret := ret) ho hl hin hse hcode hy hK (by rw [hT]; exact hcB) hoB hclB hg (hsize.trans hml.symm) (argsL := As) (rest := rest) (fun sig h => hn.trans (hlen sig h)) hstack hW (by rw [hb]; exact hdg)
    (fun vm₁ hW₁ => ⟨hf.1, hf.2, hPc (T.setVm vm₁) hT hW₁⟩) with ⟨v, vm₁, ⟨U', l2, c2, s2⟩, hW₁, X', ⟨g', mk, t, L, e1, e2, hq, h1, hL, h2, h3⟩, st⟩ | ⟨q, vm₁, ⟨U', l2, c2, s2⟩, hW₁, X', ⟨g', mk, t, L, E, ce, e1, e2, hq, hce, hcv, hcl, h1, hL, h2, h3⟩, st⟩
  · dsimp only [Pt.U, Pt.locs, Pt.cells, Pt.slots] at X' e1 e2 h1 h2 h3 st
    subst h1; subst h2; subst h3
    exact Or.inl ⟨v, (T.setVm vm₁).calling g' mk (Value.ref b :: As).toArray, t, U', L, hT, X', hL, e1, e2, hq, st⟩
  · dsimp only [Pt.U, Pt.locs, Pt.cells, Pt.slots] at X' e1 e2 h1 h2 h3 st hcl
    subst h1; subst h2; subst h3
    exact Or.inr ⟨q, (T.setVm vm₁).calling g' mk (Value.ref b :: As).toArray, t, U', L, E, ce, hT, X', hL, e1, e2, hq, hce, hcv, vx_cls hW₁ hcl, st⟩
theorem vx_runS (S : CallFix p m c cc nL s args Ts own) (hM : vx_Met l y ws rm Pc Qc XC mc ms free) (cw : CallB R s args own index y bytes maxL ret ws rm mc ms n ∧ (Cond.static y).before args s = true) (hp : PreS s H Pc As)
    (hg : g.method = m) (hn : As.length = n) (hsize : g.locals.size = nL) (hstack : g.stack = As.reverse ++ rest) (hW : 2 * g.monitorRoom + (rest.map fun v => v.category).sum ≤ 8) (hdg : decode cc g.pc = .ok (.invokestatic index, 3)) (hf : cells + mc ≤ R.cells ∧ slots + ms ≤ R.slots) :
    vx_Run p l e R s m args below meth c H locs cells slots mc ms g rest (Qc As.toArray) XC free := by
  have hK : vx_Back l R p e below s args y 3 8 (PreOf R mc ms Pc) (PostOf Qc mc ms free) (vx_Post XC mc ms free) := vx_callBack cw.1 hM hp.1
  obtain ⟨⟨-, -, -, -, -, -, hcode, hini, hy, hlen, hl⟩, hstt⟩ := cw
  obtain ⟨hx, hb, hml, ho, -⟩ := S
  intro T hT X
  rcases vx_callS X hx (bytes := bytes) (maxL := maxL) (ret := ret) ho hl hstt hini hcode hy hK hg (hsize.trans hml.symm) (argsL := As) (rest := rest) (fun sig h => hn.trans (hlen sig h)) hstack hW (by rw [hb]; exact hdg)
    (fun vm₁ hW₁ => ⟨hf.1, hf.2, hp.2 (T.setVm vm₁) hT hW₁⟩) with ⟨v, vm₁, ⟨U', l2, c2, s2⟩, hW₁, X', ⟨g', mk, t, L, e1, e2, hq, h1, hL, h2, h3⟩, st⟩ | ⟨q, vm₁, ⟨U', l2, c2, s2⟩, hW₁, X', ⟨g', mk, t, L, E, ce, e1, e2, hq, hce, hcv, hcl, h1, hL, h2, h3⟩, st⟩
  · dsimp only [Pt.U, Pt.locs, Pt.cells, Pt.slots] at X' e1 e2 h1 h2 h3 st
    subst h1; subst h2; subst h3
    exact Or.inl ⟨v, (T.setVm vm₁).calling g' mk As.toArray, t, U', L, hT, X', hL, e1, e2, hq, st⟩
  · dsimp only [Pt.U, Pt.locs, Pt.cells, Pt.slots] at X' e1 e2 h1 h2 h3 st hcl
    subst h1; subst h2; subst h3
    exact Or.inr ⟨q, (T.setVm vm₁).calling g' mk As.toArray, t, U', L, E, ce, hT, X', hL, e1, e2, hq, hce, hcv, vx_cls hW₁ hcl, st⟩
end Runs
section Rows
variable {p : Program} {l : Launch} {e : Env} {R : Room} {s : State} {m : MethodId} {args : Array Value} {below : List Frame} {meth : Method} {c : Code} {H : Heap} {locs : List Loc} {cells slots : Nat} {Q : State → Prop}
variable {mc ms : Nat} {free : Addr → Prop} {A0 A1 : Nat → Prop} {H0 : Heap} {a : Array Value} {pc : Nat} {ls : Array Slot} {st0 rest : List Value}
theorem vx_keep {st₀ t T' : State} {L : List Loc} (h0 : st₀.heap = H) (e1 : T'.heap = t.heap) (hS : va_S A0 H0 H locs) (hA : ∀ q, q < H.size → A1 q → A0 q) (hf : ∀ q, free q → A0 q) (hL : ∀ q ∈ L, free q.base) (hF : va_F A1 st₀ t) :
    H.size ≤ T'.heap.size ∧ (∀ q : Nat, q < H.size → ¬ A1 q → T'.heap[q]? = H[q]?) ∧ va_S A0 H0 T'.heap (locs ++ L) := by
  obtain ⟨hz, hk⟩ := hF
  rw [h0] at hz hk
  exact ⟨by rw [e1]; exact hz, fun q h1 h2 => by rw [e1]; exact hk q h1 h2,
    ⟨Nat.le_trans hS.1 (by rw [e1]; exact hz), fun q h1 h2 => by rw [e1, hk q (Nat.lt_of_lt_of_le h1 hS.1) (fun z => h2 (hA q (Nat.lt_of_lt_of_le h1 hS.1) z))]; exact hS.2.1 q h1 h2, fun q hq => by
      rcases List.mem_append.mp hq with h | h
      · exact hS.2.2 q h
      · exact hf _ (hL q h)⟩⟩
theorem vx_calli {S SX : Type} {post : Int32 → S → Prop} {px : SX → Prop} {B : S → State → Prop} {BX : String → SX → State → Prop} {AX : Nat → Prop} (hr : vx_Run p l e R s m args below meth c H locs cells slots mc ms (F0 m pc ls st0) rest (va_Qi post B A1 a) (vx_X px BX AX) free) (hS : va_S A0 H0 H locs) (hA : ∀ q, q < H.size → A1 q → A0 q) (hf : ∀ q, free q → A0 q) (hAX : ∀ q, q < H.size → AX q → A0 q)
    (kx : ∀ (E : String) (ce : Cell) (q9 : Addr) (u : SX) (t : State) (H1 : Heap) (locs1 : List Loc), t.heap = H1 → s.vm.Alike t.vm → px u → BX E u t → H.size ≤ H1.size → (∀ q : Nat, q < H.size → ¬ AX q → H1[q]? = H[q]?) → va_S A0 H0 H1 locs1 → H1[q9]? = some ce → ce.vm = .none → s.vm.findClass E = some ce.cls → vx_W p l e R s m args below meth c H1 locs1 (cells + mc) (slots + ms) Q (F0 m pc ls rest) q9)
    (kk : ∀ (r : Int32) (u : S) (t : State) (H1 : Heap) (locs1 : List Loc), t.heap = H1 → s.vm.Alike t.vm → post r u → B u t → H.size ≤ H1.size → (∀ q : Nat, q < H.size → ¬ A1 q → H1[q]? = H[q]?) → va_S A0 H0 H1 locs1 → W p l e R s m args below meth c H1 locs1 (cells + mc) (slots + ms) Q (F0 m (pc + 3) ls (.int r :: rest))) : W p l e R s m args below meth c H locs cells slots Q (F0 m pc ls st0) := by
  intro T hT X
  rcases hr T hT X with ⟨v, st₀, t, T', L, h0, X', hL, e1, e2, ⟨⟨r, u, hv, hp, hb⟩, hF⟩, st⟩ | ⟨q, st₀, t, T', L, E, ce, h0, X', hL, e1, e2, ⟨u, hp, hb, hF⟩, hce, hcv, hcl, st⟩
  · cases hv
    obtain ⟨k1, k2, k3⟩ := vx_keep h0 e1 hS hA hf hL hF
    obtain ⟨t2, a1, b1⟩ := kk r u t T'.heap (locs ++ L) e1.symm (by rw [← e2]; exact X'.warmed.alike) hp hb k1 k2 k3 T' rfl X'
    exact ⟨t2, st t2 a1, b1⟩
  · obtain ⟨k1, k2, k3⟩ := vx_keep h0 e1 hS hAX hf hL hF
    obtain ⟨t2, a1, b1⟩ := kx E ce q u t T'.heap (locs ++ L) e1.symm (by rw [← e2]; exact X'.warmed.alike) hp hb k1 k2 k3 (by rw [e1]; exact hce) hcv hcl T' rfl X'
    exact ⟨t2, st.trans a1, b1⟩
theorem vx_calll {S SX : Type} {post : Int64 → S → Prop} {px : SX → Prop} {B : S → State → Prop} {BX : String → SX → State → Prop} {AX : Nat → Prop} (hr : vx_Run p l e R s m args below meth c H locs cells slots mc ms (F0 m pc ls st0) rest (va_Ql post B A1 a) (vx_X px BX AX) free) (hS : va_S A0 H0 H locs) (hA : ∀ q, q < H.size → A1 q → A0 q) (hf : ∀ q, free q → A0 q) (hAX : ∀ q, q < H.size → AX q → A0 q)
    (kx : ∀ (E : String) (ce : Cell) (q9 : Addr) (u : SX) (t : State) (H1 : Heap) (locs1 : List Loc), t.heap = H1 → s.vm.Alike t.vm → px u → BX E u t → H.size ≤ H1.size → (∀ q : Nat, q < H.size → ¬ AX q → H1[q]? = H[q]?) → va_S A0 H0 H1 locs1 → H1[q9]? = some ce → ce.vm = .none → s.vm.findClass E = some ce.cls → vx_W p l e R s m args below meth c H1 locs1 (cells + mc) (slots + ms) Q (F0 m pc ls rest) q9)
    (kk : ∀ (r : Int64) (u : S) (t : State) (H1 : Heap) (locs1 : List Loc), t.heap = H1 → s.vm.Alike t.vm → post r u → B u t → H.size ≤ H1.size → (∀ q : Nat, q < H.size → ¬ A1 q → H1[q]? = H[q]?) → va_S A0 H0 H1 locs1 → W p l e R s m args below meth c H1 locs1 (cells + mc) (slots + ms) Q (F0 m (pc + 3) ls (.long r :: rest))) : W p l e R s m args below meth c H locs cells slots Q (F0 m pc ls st0) := by
  intro T hT X
  rcases hr T hT X with ⟨v, st₀, t, T', L, h0, X', hL, e1, e2, ⟨⟨r, u, hv, hp, hb⟩, hF⟩, st⟩ | ⟨q, st₀, t, T', L, E, ce, h0, X', hL, e1, e2, ⟨u, hp, hb, hF⟩, hce, hcv, hcl, st⟩
  · cases hv
    obtain ⟨k1, k2, k3⟩ := vx_keep h0 e1 hS hA hf hL hF
    obtain ⟨t2, a1, b1⟩ := kk r u t T'.heap (locs ++ L) e1.symm (by rw [← e2]; exact X'.warmed.alike) hp hb k1 k2 k3 T' rfl X'
    exact ⟨t2, st t2 a1, b1⟩
  · obtain ⟨k1, k2, k3⟩ := vx_keep h0 e1 hS hAX hf hL hF
    obtain ⟨t2, a1, b1⟩ := kx E ce q u t T'.heap (locs ++ L) e1.symm (by rw [← e2]; exact X'.warmed.alike) hp hb k1 k2 k3 (by rw [e1]; exact hce) hcv hcl T' rfl X'
    exact ⟨t2, st.trans a1, b1⟩
theorem vx_callf {S SX : Type} {post : UInt32 → S → Prop} {px : SX → Prop} {B : S → State → Prop} {BX : String → SX → State → Prop} {AX : Nat → Prop} (hr : vx_Run p l e R s m args below meth c H locs cells slots mc ms (F0 m pc ls st0) rest (va_Qf post B A1 a) (vx_X px BX AX) free) (hS : va_S A0 H0 H locs) (hA : ∀ q, q < H.size → A1 q → A0 q) (hf : ∀ q, free q → A0 q) (hAX : ∀ q, q < H.size → AX q → A0 q)
    (kx : ∀ (E : String) (ce : Cell) (q9 : Addr) (u : SX) (t : State) (H1 : Heap) (locs1 : List Loc), t.heap = H1 → s.vm.Alike t.vm → px u → BX E u t → H.size ≤ H1.size → (∀ q : Nat, q < H.size → ¬ AX q → H1[q]? = H[q]?) → va_S A0 H0 H1 locs1 → H1[q9]? = some ce → ce.vm = .none → s.vm.findClass E = some ce.cls → vx_W p l e R s m args below meth c H1 locs1 (cells + mc) (slots + ms) Q (F0 m pc ls rest) q9)
    (kk : ∀ (r : UInt32) (u : S) (t : State) (H1 : Heap) (locs1 : List Loc), t.heap = H1 → s.vm.Alike t.vm → post r u → B u t → H.size ≤ H1.size → (∀ q : Nat, q < H.size → ¬ A1 q → H1[q]? = H[q]?) → va_S A0 H0 H1 locs1 → W p l e R s m args below meth c H1 locs1 (cells + mc) (slots + ms) Q (F0 m (pc + 3) ls (.float r :: rest))) : W p l e R s m args below meth c H locs cells slots Q (F0 m pc ls st0) := by
  intro T hT X
  rcases hr T hT X with ⟨v, st₀, t, T', L, h0, X', hL, e1, e2, ⟨⟨r, u, hv, hp, hb⟩, hF⟩, st⟩ | ⟨q, st₀, t, T', L, E, ce, h0, X', hL, e1, e2, ⟨u, hp, hb, hF⟩, hce, hcv, hcl, st⟩
  · cases hv
    obtain ⟨k1, k2, k3⟩ := vx_keep h0 e1 hS hA hf hL hF
    obtain ⟨t2, a1, b1⟩ := kk r u t T'.heap (locs ++ L) e1.symm (by rw [← e2]; exact X'.warmed.alike) hp hb k1 k2 k3 T' rfl X'
    exact ⟨t2, st t2 a1, b1⟩
  · obtain ⟨k1, k2, k3⟩ := vx_keep h0 e1 hS hAX hf hL hF
    obtain ⟨t2, a1, b1⟩ := kx E ce q u t T'.heap (locs ++ L) e1.symm (by rw [← e2]; exact X'.warmed.alike) hp hb k1 k2 k3 (by rw [e1]; exact hce) hcv hcl T' rfl X'
    exact ⟨t2, st.trans a1, b1⟩
theorem vx_calld {S SX : Type} {post : UInt64 → S → Prop} {px : SX → Prop} {B : S → State → Prop} {BX : String → SX → State → Prop} {AX : Nat → Prop} (hr : vx_Run p l e R s m args below meth c H locs cells slots mc ms (F0 m pc ls st0) rest (va_Qd post B A1 a) (vx_X px BX AX) free) (hS : va_S A0 H0 H locs) (hA : ∀ q, q < H.size → A1 q → A0 q) (hf : ∀ q, free q → A0 q) (hAX : ∀ q, q < H.size → AX q → A0 q)
    (kx : ∀ (E : String) (ce : Cell) (q9 : Addr) (u : SX) (t : State) (H1 : Heap) (locs1 : List Loc), t.heap = H1 → s.vm.Alike t.vm → px u → BX E u t → H.size ≤ H1.size → (∀ q : Nat, q < H.size → ¬ AX q → H1[q]? = H[q]?) → va_S A0 H0 H1 locs1 → H1[q9]? = some ce → ce.vm = .none → s.vm.findClass E = some ce.cls → vx_W p l e R s m args below meth c H1 locs1 (cells + mc) (slots + ms) Q (F0 m pc ls rest) q9)
    (kk : ∀ (r : UInt64) (u : S) (t : State) (H1 : Heap) (locs1 : List Loc), t.heap = H1 → s.vm.Alike t.vm → post r u → B u t → H.size ≤ H1.size → (∀ q : Nat, q < H.size → ¬ A1 q → H1[q]? = H[q]?) → va_S A0 H0 H1 locs1 → W p l e R s m args below meth c H1 locs1 (cells + mc) (slots + ms) Q (F0 m (pc + 3) ls (.double r :: rest))) : W p l e R s m args below meth c H locs cells slots Q (F0 m pc ls st0) := by
  intro T hT X
  rcases hr T hT X with ⟨v, st₀, t, T', L, h0, X', hL, e1, e2, ⟨⟨r, u, hv, hp, hb⟩, hF⟩, st⟩ | ⟨q, st₀, t, T', L, E, ce, h0, X', hL, e1, e2, ⟨u, hp, hb, hF⟩, hce, hcv, hcl, st⟩
  · cases hv
    obtain ⟨k1, k2, k3⟩ := vx_keep h0 e1 hS hA hf hL hF
    obtain ⟨t2, a1, b1⟩ := kk r u t T'.heap (locs ++ L) e1.symm (by rw [← e2]; exact X'.warmed.alike) hp hb k1 k2 k3 T' rfl X'
    exact ⟨t2, st t2 a1, b1⟩
  · obtain ⟨k1, k2, k3⟩ := vx_keep h0 e1 hS hAX hf hL hF
    obtain ⟨t2, a1, b1⟩ := kx E ce q u t T'.heap (locs ++ L) e1.symm (by rw [← e2]; exact X'.warmed.alike) hp hb k1 k2 k3 (by rw [e1]; exact hce) hcv hcl T' rfl X'
    exact ⟨t2, st.trans a1, b1⟩
theorem vx_callv {S SX : Type} {post : S → Prop} {px : SX → Prop} {B : S → State → Prop} {BX : String → SX → State → Prop} {AX : Nat → Prop} (hr : vx_Run p l e R s m args below meth c H locs cells slots mc ms (F0 m pc ls st0) rest (va_Qv post B A1 a) (vx_X px BX AX) free) (hS : va_S A0 H0 H locs) (hA : ∀ q, q < H.size → A1 q → A0 q) (hf : ∀ q, free q → A0 q) (hAX : ∀ q, q < H.size → AX q → A0 q)
    (kx : ∀ (E : String) (ce : Cell) (q9 : Addr) (u : SX) (t : State) (H1 : Heap) (locs1 : List Loc), t.heap = H1 → s.vm.Alike t.vm → px u → BX E u t → H.size ≤ H1.size → (∀ q : Nat, q < H.size → ¬ AX q → H1[q]? = H[q]?) → va_S A0 H0 H1 locs1 → H1[q9]? = some ce → ce.vm = .none → s.vm.findClass E = some ce.cls → vx_W p l e R s m args below meth c H1 locs1 (cells + mc) (slots + ms) Q (F0 m pc ls rest) q9)
    (kk : ∀ (u : S) (t : State) (H1 : Heap) (locs1 : List Loc), t.heap = H1 → s.vm.Alike t.vm → post u → B u t → H.size ≤ H1.size → (∀ q : Nat, q < H.size → ¬ A1 q → H1[q]? = H[q]?) → va_S A0 H0 H1 locs1 → W p l e R s m args below meth c H1 locs1 (cells + mc) (slots + ms) Q (F0 m (pc + 3) ls (rest))) : W p l e R s m args below meth c H locs cells slots Q (F0 m pc ls st0) := by
  intro T hT X
  rcases hr T hT X with ⟨v, st₀, t, T', L, h0, X', hL, e1, e2, ⟨⟨u, hv, hp, hb⟩, hF⟩, st⟩ | ⟨q, st₀, t, T', L, E, ce, h0, X', hL, e1, e2, ⟨u, hp, hb, hF⟩, hce, hcv, hcl, st⟩
  · cases hv
    obtain ⟨k1, k2, k3⟩ := vx_keep h0 e1 hS hA hf hL hF
    obtain ⟨t2, a1, b1⟩ := kk u t T'.heap (locs ++ L) e1.symm (by rw [← e2]; exact X'.warmed.alike) hp hb k1 k2 k3 T' rfl X'
    exact ⟨t2, st t2 a1, b1⟩
  · obtain ⟨k1, k2, k3⟩ := vx_keep h0 e1 hS hAX hf hL hF
    obtain ⟨t2, a1, b1⟩ := kx E ce q u t T'.heap (locs ++ L) e1.symm (by rw [← e2]; exact X'.warmed.alike) hp hb k1 k2 k3 (by rw [e1]; exact hce) hcv hcl T' rfl X'
    exact ⟨t2, st.trans a1, b1⟩
/-- caught by the row x of this method's table; the rows ahead don't take it -/
theorem vx_catch {own name : String} {E : String} {ce : Cell} {q : Addr} (hown : s.vm.findClass own = some m.cls) (pre : List ExceptionTableEntry) (x : ExceptionTableEntry) (suf : List ExceptionTableEntry) (hsplit : c.exceptionTable.toList = pre ++ x :: suf)
    (hpass : ∀ z ∈ pre, covers z pc = false ∨ (z.catchType ≠ 0 ∧ ∃ nm : String, (Cond.classLink own z.catchType nm).before args s = true ∧ va_Nc E nm s)) (hx : covers x pc = true) (h0 : x.catchType ≠ 0)
    (hlink : (Cond.classLink own x.catchType name).before args s = true) (hcast : (Cond.castable E name).before args s = true) (hcell : H[q]? = some ce) (hv : ce.vm = .none) (hcl : s.vm.findClass E = some ce.cls)
    (kk : W p l e R s m args below meth c H locs cells slots Q (F0 m x.handlerPc ls [.ref q])) : vx_W p l e R s m args below meth c H locs cells slots Q (F0 m pc ls rest) q := by
  intro T hT X
  have hpl : e.platform.magicAccessors = ({} : Platform).magicAccessors := by rw [X.admits.platform]
  obtain ⟨c3, c4, hc3, hc4, hasg⟩ := Cond.castable_spec hcast
  cases Option.some.inj (hc3.symm.trans hcl)
  obtain ⟨c5, hc5, hcl5⟩ := Cond.classLink_spec hown hlink e.platform hpl
  cases Option.some.inj (hc4.symm.trans hc5)
  obtain ⟨vm', X', st⟩ := X.thenCaughtThrough q (g := F0 m pc ls rest) rfl (Steps.refl _) (by rw [hT]; exact hcell) (by rw [hv]; rfl) (by obtain ⟨k9, h9, -⟩ := Vm.findClass_spec hcl; exact ⟨k9, h9⟩) pre x suf hsplit
    (fun z hz => by
      rcases hpass z hz with h | ⟨hz0, nm, hl1, hn1⟩
      · exact Or.inl h
      · obtain ⟨c6, hc6, hcl6⟩ := Cond.classLink_spec hown hl1 e.platform hpl
        obtain ⟨a8, b8, h1, h2, h3⟩ := hn1
        cases Option.some.inj (h1.symm.trans hcl)
        cases Option.some.inj (h2.symm.trans hc6)
        exact Or.inr ⟨hz0, _, hcl6, h3⟩) hx (Or.inr ⟨h0, c4, hcl5, hasg⟩)
  obtain ⟨t, a1, b1⟩ := kk (T.setVm vm') hT X'
  exact ⟨t, st.trans a1, b1⟩
end Rows
section Ends
variable {p : Program} {l : Launch} {e : Env} {R : Room} {s : State} {m : MethodId} {args : Array Value} {below : List Frame} {meth : Method} {c : Code} {H : Heap} {locs : List Loc} {cells slots : Nat} {Q : State → Prop}
variable {mc ms : Nat} {free : Addr → Prop} {A0 A1 : Nat → Prop} {H0 : Heap} {a : Array Value} {ls : Array Slot} {st0 rest : List Value}
variable {Qc : Array Value → State → Outcome → State → Prop} {XC : String → State → State → Prop}
/-- what a body that may throw owes at its end -/
def vx_MQ (below : List Frame) (Qc : Array Value → State → Outcome → State → Prop) (XC : String → State → State → Prop) (a : Array Value) (s : State) (mc ms : Nat) (free : Addr → Prop) : State → Prop := fun t =>
  ∃ o, t.status = .running ∧ Ended t below o ∧ vx_Q Qc XC mc ms free a s o t
theorem vx_ret {g : JFrame} {mc ms : Nat} (k : W p l e R s m args below meth c H locs cells slots (MQ below Qc args s mc ms free) g) : W p l e R s m args below meth c H locs cells slots (vx_MQ below Qc XC args s mc ms free) g := by
  intro T hT X
  obtain ⟨t, a1, o, b1, b2, b3, b4⟩ := k T hT X
  exact ⟨t, a1, o, b1, b2, Or.inl ⟨b3, b4⟩⟩
/-- not caught here: it goes on to the caller -/
theorem vx_widen {g : JFrame} {q : Addr} {k n : Nat} (h1 : cells ≤ k) (h2 : slots ≤ n) (kk : vx_W p l e R s m args below meth c H locs k n Q g q) : vx_W p l e R s m args below meth c H locs cells slots Q g q := fun T hT X => kk T hT (stand_widen X h1 h2)
theorem vx_out {pc : Nat} {E : String} {ce : Cell} {q : Addr} {mc ms : Nat} (hout : ∀ x ∈ c.exceptionTable.toList, covers x pc = false) (hlocks : meth.locks = false) (hcell : H[q]? = some ce) (hv : ce.vm = .none) (hcl : s.vm.findClass E = some ce.cls)
    (hx : ∀ t : State, t.heap = H → s.vm.Alike t.vm → XC E s t) (hf : ∀ z ∈ locs, free z.base) (hc : cells ≤ mc) (hs : slots ≤ ms) :
    vx_W p l e R s m args below meth c H locs cells slots (vx_MQ below Qc XC args s mc ms free) (F0 m pc ls rest) q := by
  intro T hT X
  obtain ⟨st1, hrun, hend, hW, hsm⟩ := X.leaveThrown q (g := F0 m pc ls rest) rfl rfl rfl hout hlocks
  have hcell9 : (T.setFrames (.throwing q :: below)).heap[q]? = some ce := by
    show T.heap[q]? = some ce
    rw [hT]; exact hcell
  exact ⟨_, st1, .threw q, hrun, hend, Or.inr ⟨q, rfl, E, ce, locs, hx _ hT hW.alike, hcell9, hv, hcl, hW, hsm.mono hc hs, hf⟩⟩
theorem vx_frame {U : State} {k n : Nat} (h : s.sameButNew ({ U with vm := s.vm } : State) locs k n) : s.heap.size ≤ U.heap.size ∧ ∀ q : Nat, q < s.heap.size → (∀ z ∈ locs, z.base ≠ q) → U.heap[q]? = s.heap[q]? := by
  obtain ⟨-, h2, -, -, -, h6⟩ := h
  refine ⟨h2, fun q hq hz => ?_⟩
  obtain ⟨c9, e1, e2, e3, e4⟩ := h6 q _ (Array.getElem?_eq_getElem hq)
  have hs : c9.slots = (s.heap[q]).slots := Array.ext_getElem? fun i => e4 i fun hm => hz _ hm rfl
  have h9 : c9 = s.heap[q] := by
    rw [hs] at e2
    exact e2
  have e5 : U.heap[q]? = some c9 := e1
  rw [e5, h9, Array.getElem?_eq_getElem hq]
/-- the words of a throw but the four that speak of the heap -/
def vx_no (w : Cond) : Bool := decide (w ≠ .isRef (.static Bundle.tN "UNASSIGNED_STACK" Bundle.steD)) && decide (w ≠ .isRef (.static Bundle.tN "SUPPRESSED_SENTINEL" Bundle.listD)) && decide (w ≠ .laysStatic Bundle.tN "UNASSIGNED_STACK" Bundle.steD) && decide (w ≠ .laysStatic Bundle.tN "SUPPRESSED_SENTINEL" Bundle.listD)
def vx_at0 (own : String) (ic : Nat) (X : String) (names : List String) : List Cond := (Bundle.ownAtoms0 own ic X names).filter vx_no
def vx_atS (own : String) (ic : Nat) (X : String) (names : List String) : List Cond := (Bundle.ownAtoms own ic X names).filter vx_no
/-- a word that the tables alone decide, or a good one -/
def vx_ot (w : Cond) : Bool := w.onTables || goodWord w
theorem vx_ot_at {args a' : Array Value} {s U : State} {w : Cond} (hW : s.WarmedH U.vm) (hvm : s.vm = U.vm) (hg : vx_ot w = true) (h : w.before args s = true) : w.before a' U = true := by
  simp only [vx_ot, Bool.or_eq_true] at hg
  rcases hg with hg | hg
  · exact va_tabs hg hvm h
  · exact word_at hW (good_of_word hg) h
/-- a list's words: the good ones out of the method's own list, the others by premises of their own -/
theorem vx_hat {args : Array Value} {s : State} {L B : List Cond} (h1 : ∀ w ∈ L.filter goodWord, w.before args s = true) (h2 : ∀ w ∈ L.filter (fun w => !goodWord w), w ∈ B) (h3 : ∀ w ∈ B, w.before args s = true) : ∀ w ∈ L, w.before args s = true := by
  intro w hw
  by_cases g : goodWord w = true
  · exact h1 w (List.mem_filter.mpr ⟨hw, g⟩)
  · refine h3 w (h2 w (List.mem_filter.mpr ⟨hw, ?_⟩))
    show (!goodWord w) = true
    cases hgw : goodWord w
    · rfl
    · exact absurd hgw g
theorem vx_c {args : Array Value} {s : State} {w : Cond} {B : List Cond} (h : w.before args s = true) (t : ∀ w ∈ B, w.before args s = true) : ∀ w' ∈ w :: B, w'.before args s = true := fun w' h' => (List.mem_cons.mp h').elim (fun e => by rw [e]; exact h) (t w')
theorem vx_n {args : Array Value} {s : State} : ∀ w ∈ ([] : List Cond), w.before args s = true := fun _ h => nomatch h
theorem vx_own {args : Array Value} {s : State} {L : List Cond} (h1 : ∀ w ∈ L.filter vx_no, w.before args s = true)
    (hU : (Cond.isRef (.static Bundle.tN "UNASSIGNED_STACK" Bundle.steD)).before args s = true) (hN : (Cond.isRef (.static Bundle.tN "SUPPRESSED_SENTINEL" Bundle.listD)).before args s = true)
    (lU : (Cond.laysStatic Bundle.tN "UNASSIGNED_STACK" Bundle.steD).before args s = true) (lN : (Cond.laysStatic Bundle.tN "SUPPRESSED_SENTINEL" Bundle.listD).before args s = true) : ∀ w ∈ L, w.before args s = true := by
  intro w hw
  by_cases e1 : w = .isRef (.static Bundle.tN "UNASSIGNED_STACK" Bundle.steD)
  · rw [e1]; exact hU
  · by_cases e2 : w = .isRef (.static Bundle.tN "SUPPRESSED_SENTINEL" Bundle.listD)
    · rw [e2]; exact hN
    · by_cases e3 : w = .laysStatic Bundle.tN "UNASSIGNED_STACK" Bundle.steD
      · rw [e3]; exact lU
      · by_cases e4 : w = .laysStatic Bundle.tN "SUPPRESSED_SENTINEL" Bundle.listD
        · rw [e4]; exact lN
        · exact h1 w (List.mem_filter.mpr ⟨hw, by unfold vx_no; rw [decide_eq_true e1, decide_eq_true e2, decide_eq_true e3, decide_eq_true e4]; rfl⟩)
/-- where a static field lies, its class's statics cell in H -/
def vx_L (C n d : String) (A : Nat → Prop) (U : State) (H : Heap) : Prop := ∃ (c : ClassId) (k : Class) (i : Nat) (f : Field) (a : Nat) (cell : Cell), U.vm.findClass C = some c ∧ U.fieldFound? C n d = some (c, k, i, f) ∧ f.isStatic = true ∧ k.statics = some a ∧ H[a]? = some cell ∧ cell.vm.isStatics = true ∧ cell.cls = c ∧ f.slot < cell.slots.size ∧ k.staticTypes[f.slot]? = some f.type ∧ ¬ A a
theorem vx_L.moved {C n d : String} {A : Nat → Prop} {u U : State} {H : Heap} (hvm : u.vm.Alike U.vm) (h : vx_L C n d A u H) : vx_L C n d A U H := by
  obtain ⟨c, k, i, f, a, cell, h1, h2, h3, h4, h5, h6, h7, h8, h9, h10⟩ := h
  obtain ⟨k', hi', he⟩ := State.fieldFound?_setVm hvm h2
  exact ⟨c, k', i, f, a, cell, by rw [hvm.findClass]; exact h1, hi', h3, by rw [he]; exact h4, h5, h6, h7, h8, by rw [he]; exact h9, h10⟩
theorem vx_L.kept {C n d : String} {A : Nat → Prop} {U : State} {H H1 : Heap} (h : vx_L C n d A U H) (hq : ∀ a : Nat, a < H.size → ¬ A a → H1[a]? = H[a]?) : vx_L C n d A U H1 := by
  obtain ⟨c, k, i, f, a, cell, h1, h2, h3, h4, h5, h6, h7, h8, h9, h10⟩ := h
  exact ⟨c, k, i, f, a, cell, h1, h2, h3, h4, by rw [hq a (Array.getElem?_eq_some_iff.mp h5).1 h10]; exact h5, h6, h7, h8, h9, h10⟩
theorem vx_L.narrow {C n d : String} {A B : Nat → Prop} {U : State} {H : Heap} (h : vx_L C n d A U H) (hAB : ∀ q, B q → A q) : vx_L C n d B U H := by
  obtain ⟨c, k, i, f, a, cell, h1, h2, h3, h4, h5, h6, h7, h8, h9, h10⟩ := h
  exact ⟨c, k, i, f, a, cell, h1, h2, h3, h4, h5, h6, h7, h8, h9, fun z => h10 (hAB _ z)⟩
theorem vx_L.word {C n d : String} {A : Nat → Prop} {s : State} {args : Array Value} (h : vx_L C n d A s s.heap) : (Cond.laysStatic C n d).before args s = true := by
  obtain ⟨c, k, i, f, a, cell, h1, h2, h3, h4, h5, h6, h7, h8, h9, -⟩ := h
  show (Cond.laysStatic C n d).holds args s none s [] = true
  exact Cond.laysStatic_of h1 h2 h3 h4 h5 h6 h7 h8 h9
/-- .. and what it holds: null or some reference -/
def vx_Zq (C n d : String) (A : Nat → Prop) (U : State) (H : Heap) : Prop := va_Zq C n d A U H ∧ vx_L C n d A U H
theorem vx_Zq.moved {C n d : String} {A : Nat → Prop} {u U : State} {H : Heap} (hvm : u.vm.Alike U.vm) (h : vx_Zq C n d A u H) : vx_Zq C n d A U H := ⟨va_Zq.moved hvm h.1, vx_L.moved hvm h.2⟩
theorem vx_Zq.kept {C n d : String} {A : Nat → Prop} {U : State} {H H1 : Heap} (h : vx_Zq C n d A U H) (hq : ∀ a : Nat, a < H.size → ¬ A a → H1[a]? = H[a]?) : vx_Zq C n d A U H1 := ⟨va_Zq.kept h.1 hq, vx_L.kept h.2 hq⟩
theorem vx_Zq.narrow {C n d : String} {A B : Nat → Prop} {U : State} {H : Heap} (h : vx_Zq C n d A U H) (hAB : ∀ q, B q → A q) : vx_Zq C n d B U H := ⟨va_Zq.narrow h.1 hAB, vx_L.narrow h.2 hAB⟩
theorem vx_Zqof {args : Array Value} {s : State} {C n d : String} {A : Nat → Prop} (hl : (Cond.laysStatic C n d).before args s = true) (hini : (Cond.initialized C).before args s = true) (h : (Cond.isRef (.static C n d)).before args s = true) (hA : ∀ a : Nat, a < s.heap.size → ¬ A a) : vx_Zq C n d A s s.heap := by
  refine ⟨va_Zqof hl hini h hA, ?_⟩
  obtain ⟨c, k, i, f, a, cell, h1, h2, h3, h4, h5, h6, h7, h8, h9⟩ := Cond.laysStatic_spec hl
  exact ⟨c, k, i, f, a, cell, h1, h2, h3, h4, h5, h6, h7, h8, h9, hA a (Array.getElem?_eq_some_iff.mp h5).1⟩
theorem vx_isRef {C n d : String} {v : Value} {A : Nat → Prop} {s : State} {args : Array Value} (h : va_Z C n d v A s s.heap) (hv : v.isRef = true) : (Cond.isRef (.static C n d)).before args s = true := by
  obtain ⟨cf, kf, fi, f, a, cell, h1, h2, h3, h4, h5, h6, h7, -⟩ := h
  have he : (Term.static C n d).eval args s none [] s = some v := by
    simp [Term.eval, State.fieldNamed?, h1, h2, h4, h5, h6, h7]
  simp only [Cond.before, Cond.holds, Cond.value, he]
  cases v <;> simp_all [Value.isRef]
theorem vx_isRefq {C n d : String} {A : Nat → Prop} {s : State} {args : Array Value} (h : va_Zq C n d A s s.heap) : (Cond.isRef (.static C n d)).before args s = true := by
  rcases h with h | ⟨t, h⟩
  · exact vx_isRef h rfl
  · exact vx_isRef h rfl
/-- the same frame, seen from here: as if the method were called anew in this heap -/
theorem vx_rebase {T : State} (X : Stand p l e R s m args below meth c T locs cells slots) {R' : Room} (hf : R'.frames ≤ R.frames) (hl : R'.locals ≤ R.locals) (hc : cells + R'.cells ≤ R.cells) (hs : slots + R'.slots ≤ R.slots) :
    Stand p l e R' ((T.setVm s.vm).setFrames (.invoking m args :: below)) m args below meth c T [] 0 0 := by
  have htop : (T.setVm s.vm).topJava?.isSome := X.here.top
  have hF : ((T.setVm s.vm).setFrames (.invoking m args :: below)).frames = .invoking m args :: below := State.frames_setFrames _ (State.cur_lt_of_top htop)
  obtain ⟨g₀, hg0⟩ := Option.isSome_iff_exists.mp htop
  obtain ⟨r, hr⟩ := State.topJava?_eq_some.mp hg0
  have hl9 : e.platform.stackLimits (T.setVm s.vm).me = e.platform.stackLimits s.me := X.limits
  have hb9 : (T.setVm s.vm).me.stackBytes = s.me.stackBytes := X.bytes
  refine ⟨X.admits, X.cas, X.clock, hF, ?_, X.hears, X.method, X.code, X.here, X.tail, X.warmed, ?_, ?_, ?_⟩
  · have h := X.room
    have hU : ((T.setVm s.vm).setFrames (.invoking m args :: below)).localsInUse = s.localsInUse := by
      rw [State.localsInUse_invoking hF (meth := meth) (c := c) X.method X.code, State.localsInUse_invoking X.frames X.method X.code]
    simp only [State.hasRoom, Bool.and_eq_true, decide_eq_true_eq] at h ⊢
    obtain ⟨⟨⟨⟨h1, h2, h3, h4, h5, h6⟩, h7⟩, h8⟩, h9⟩ := h
    rw [X.frames, List.length_cons] at h2 h3
    have q1 := X.heapSize
    have q2 := X.used
    simp only [hF, hU, List.length_cons, State.stackLimits_setFrames, State.stackBytes_setFrames, hl9, hb9]
    refine ⟨⟨⟨⟨by omega, by omega, by omega, by omega, by omega, h6⟩, ?_⟩, ?_⟩, X.book⟩
    · show T.heap.size + R'.cells ≤ e.platform.maxCells
      omega
    · show T.slotsUsed + R'.slots ≤ e.platform.maxSlots
      omega
  · rw [State.stackLimits_setFrames]; rfl
  · rw [State.stackBytes_setFrames]; rfl
  · refine ⟨?_, Nat.le_refl _, Nat.le_refl _, ?_, ?_, fun a c9 h9 => ⟨c9, h9, rfl, rfl, fun _ _ => rfl⟩⟩
    · obtain ⟨t, ht, -⟩ := State.frames_cons hr
      show T.setVm s.vm = { ((T.setVm s.vm).setFrames (.invoking m args :: below)).setFrames (T.setVm s.vm).frames with heap := T.heap, slotsUsed := T.slotsUsed }
      rw [State.setFrames_setFrames, State.setFrames_self ht]
      rfl
    · show T.slotsUsed = T.slotsUsed + ((T.heap.toList.drop T.heap.size).map (·.slots.size)).sum
      rw [List.drop_eq_nil_of_le (Nat.le_of_eq Array.length_toList)]
      rfl
    · show ((T.heap.toList.drop T.heap.size).map (·.slots.size)).sum ≤ 0
      rw [List.drop_eq_nil_of_le (Nat.le_of_eq Array.length_toList)]
      exact Nat.le_refl _
/-- 'throw new E()': new; dup; invokespecial; athrow -/
theorem vx_throw0 {cc : ByteArray} {pc : Nat} (hexec : p.tables.exec = Jvm.exec) (hb : c.code = cc) (hl : l.stackTraces = false) {own cls : String} {names : List String} {ik ic mc ms : Nat} {A : Nat → Prop}
    (hown : s.vm.findClass own = some m.cls) (hcls : Bundle.fit cls = true) (hnames : ∀ n ∈ names, Bundle.fit n = true)
    (hk : (Cond.classLink own ik cls).before args s = true) (hini : (Cond.initialized cls).before args s = true) (hat : ∀ w ∈ vx_at0 own ic cls names, w.before args s = true)
    (hgood : ∀ w ∈ Cond.classLink own ik cls :: Cond.initialized cls :: vx_at0 own ic cls names, vx_ot w = true)
    (hU : vx_Zq Bundle.tN "UNASSIGNED_STACK" Bundle.steD A s s.heap) (hN : vx_Zq Bundle.tN "SUPPRESSED_SENTINEL" Bundle.listD A s s.heap) (hS : va_S A s.heap H locs) (hsize : ls.size = c.maxLocals)
    (d0 : decode cc pc = .ok (.new ik, 3)) (d3 : decode cc (pc + 3) = .ok (.dup, 1)) (d4 : decode cc (pc + 4) = .ok (.invokespecial ic, 3)) (d7 : decode cc (pc + 7) = .ok (.athrow, 1))
    (hout : ∀ x ∈ c.exceptionTable.toList, covers x (pc + 7) = false)
    (hRframes : names.length + 3 < R.frames) (hRlocals : (rest.map fun v => v.category).sum + (13 * (names.length + 1) + 42) ≤ R.locals) (hRcells : cells + 1 ≤ R.cells) (hRslots : slots + 6 ≤ R.slots) (hlocks : meth.locks = false)
    (hx : ∀ t : State, s.vm.Alike t.vm → H.size ≤ t.heap.size → (∀ q : Nat, q < H.size → t.heap[q]? = H[q]?) → XC cls s t)
    (hf : ∀ z ∈ locs, free z.base) (hc : cells + 1 ≤ mc) (hs : slots + 6 ≤ ms) :
    W p l e R s m args below meth c H locs cells slots (vx_MQ below Qc XC args s mc ms free) (F0 m pc ls rest) := by
  intro T hT X
  have htr : e.platform.stackTraces = false := (show e.platform.stackTraces = l.stackTraces by rw [X.admits.platform]).trans hl
  have Y := vx_rebase X (R' := { frames := R.frames, locals := R.locals, cells := 1, slots := 6 }) (Nat.le_refl _) (Nat.le_refl _) hRcells hRslots
  obtain ⟨s', hA⟩ : ∃ z, z = (T.setVm s.vm).setFrames (.invoking m args :: below) := ⟨_, rfl⟩
  rw [← hA] at Y
  have hvm : s'.vm = s.vm := by rw [hA]; rfl
  have hhp : s'.heap = H := by rw [hA]; exact hT
  have hW0 : s.WarmedH s'.vm := by rw [hvm]; exact State.WarmedH.refl s
  have hat' : ∀ w ∈ vx_at0 own ic cls names, w.before args s' = true := fun w hw => vx_ot_at hW0 hvm.symm (hgood w (List.mem_cons_of_mem _ (List.mem_cons_of_mem _ hw))) (hat w hw)
  have hk' : (Cond.classLink own ik cls).before args s' = true := vx_ot_at hW0 hvm.symm (hgood _ List.mem_cons_self) hk
  have hini' : (Cond.initialized cls).before args s' = true := vx_ot_at hW0 hvm.symm (hgood _ (List.mem_cons_of_mem _ List.mem_cons_self)) hini
  have hU' : vx_Zq Bundle.tN "UNASSIGNED_STACK" Bundle.steD A s' s'.heap := by rw [hhp]; exact vx_Zq.moved hW0.alike (hU.kept hS.2.1)
  have hN' : vx_Zq Bundle.tN "SUPPRESSED_SENTINEL" Bundle.listD A s' s'.heap := by rw [hhp]; exact vx_Zq.moved hW0.alike (hN.kept hS.2.1)
  have h : ∀ w ∈ Bundle.ownAtoms0 own ic cls names, w.before args s' = true := vx_own hat' (vx_isRefq hU'.1) (vx_isRefq hN'.1) hU'.2.word hN'.2.word
  have hown' : s'.vm.findClass own = some m.cls := by rw [hvm]; exact hown
  have hins : (Cond.instantiable cls 6).before args s' = true := h _ (by simp [Bundle.ownAtoms0])
  obtain ⟨vm₁, cX, kX, hfX, hkX, -, -, X₁, st1⟩ := Y.newCold hexec (own := own) (C := cls) (index := ik) (n := 6) hown' hk' hins hini'
    (g := F0 m pc ls rest) rfl (by rw [hb]; exact d0) (Nat.le_refl _) (Nat.le_refl _)
  generalize hT1 : (T.setVm vm₁).pushCell { cls := cX, slots := kX.instanceTypes.map defaultValue, vm := .none } = T1 at X₁ st1
  have hcat : (Value.ref T.heap.size).category = 1 := rfl
  have hcellA : T1.heap[T.heap.size]? = some (freshCell cX kX) := by rw [← hT1]; exact State.heap_pushCell_size _ _
  have d3' : decode c.code (pc + 3) = .ok (.dup, 1) := by rw [hb]; exact d3
  obtain ⟨U, hsteps, hrun, hend, hW, hsame, ce, hce, hO⟩ := X₁.ctorThrow0 hexec htr (own := own) (cls := cls) (names := names) (ic := ic) hown' hcls hnames h (fun x hx => nomatch hx) hfX hkX hcellA (by rw [hhp, hT]; exact Nat.le_refl _)
    (g := { method := m, pc := pc + 4, locals := ls, stack := .ref T.heap.size :: .ref T.heap.size :: rest, locked := none }) rfl hsize rfl rfl (rest := rest) rfl
    (by rw [hb]; exact d4) (by rw [hb]; exact d7) hout hRframes (by simp only [List.map_cons, List.sum_cons, hcat]; omega) hlocks
  obtain ⟨f1, f2⟩ := vx_frame hsame
  rw [hhp] at f1 f2
  have hWs : s.WarmedH U.vm := State.WarmedH.trans hW0 hW
  have hcl : s.vm.findClass cls = some ce.cls := by
    have h9 := hO.cls
    rw [hvm] at h9
    exact h9
  have hall : s.sameButNew ({ U with vm := s.vm } : State) locs mc ms := by
    subst hA
    obtain ⟨e1, e2⟩ := hsame
    rw [State.setFrames_setFrames] at e1
    have h2 : (T.setVm s.vm).sameButNew ({ U with vm := s.vm } : State) [] (0 + 1) (0 + 6) := ⟨e1, e2⟩
    have h3 := X.same.trans h2
    rw [List.append_nil] at h3
    exact h3.mono hc hs
  refine ⟨U, ?_, .threw T.heap.size, hrun, hend, Or.inr ⟨T.heap.size, rfl, cls, ce, locs, hx U hWs.alike f1 (fun q hq => f2 q hq (fun z hz => nomatch hz)), hce, hO.vm, hcl, hWs, hall, hf⟩⟩
  refine st1 _ ?_
  show Steps p.tables e below (T1.setTop { method := m, pc := pc + 3, locals := ls, stack := .ref T.heap.size :: rest, locked := none }) _
  jvm_step X₁.here [X₁.here.top, hexec, d3', Value.category]
  exact hsteps
/-- 'throw new E("text")': new; dup; ldc; invokespecial; athrow -/
theorem vx_throwS {cc : ByteArray} {pc : Nat} (hexec : p.tables.exec = Jvm.exec) (hb : c.code = cc) (hl : l.stackTraces = false) {own cls text : String} {names : List String} {ik is ic mc ms sa : Nat} {A : Nat → Prop}
    (hown : s.vm.findClass own = some m.cls) (hcls : Bundle.fit cls = true) (hnames : ∀ n ∈ names, Bundle.fit n = true)
    (hk : (Cond.classLink own ik cls).before args s = true) (hini : (Cond.initialized cls).before args s = true) (hstr : vk_R own is text sa s) (hat : ∀ w ∈ vx_atS own ic cls names, w.before args s = true)
    (hgood : ∀ w ∈ Cond.classLink own ik cls :: Cond.initialized cls :: vx_atS own ic cls names, vx_ot w = true)
    (hU : vx_Zq Bundle.tN "UNASSIGNED_STACK" Bundle.steD A s s.heap) (hN : vx_Zq Bundle.tN "SUPPRESSED_SENTINEL" Bundle.listD A s s.heap) (hS : va_S A s.heap H locs) (hsize : ls.size = c.maxLocals)
    (d0 : decode cc pc = .ok (.new ik, 3)) (d3 : decode cc (pc + 3) = .ok (.dup, 1)) (d4 : decode cc (pc + 4) = .ok (.ldc is, 2)) (d6 : decode cc (pc + 6) = .ok (.invokespecial ic, 3)) (d9 : decode cc (pc + 9) = .ok (.athrow, 1))
    (hout : ∀ x ∈ c.exceptionTable.toList, covers x (pc + 9) = false)
    (hRframes : names.length + 3 < R.frames) (hRlocals : (rest.map fun v => v.category).sum + (13 * (names.length + 1) + 43) ≤ R.locals) (hRcells : cells + 1 ≤ R.cells) (hRslots : slots + 6 ≤ R.slots) (hlocks : meth.locks = false)
    (hx : ∀ t : State, s.vm.Alike t.vm → H.size ≤ t.heap.size → (∀ q : Nat, q < H.size → t.heap[q]? = H[q]?) → XC cls s t)
    (hf : ∀ z ∈ locs, free z.base) (hc : cells + 1 ≤ mc) (hs : slots + 6 ≤ ms) :
    W p l e R s m args below meth c H locs cells slots (vx_MQ below Qc XC args s mc ms free) (F0 m pc ls rest) := by
  intro T hT X
  have htr : e.platform.stackTraces = false := (show e.platform.stackTraces = l.stackTraces by rw [X.admits.platform]).trans hl
  have Y := vx_rebase X (R' := { frames := R.frames, locals := R.locals, cells := 1, slots := 6 }) (Nat.le_refl _) (Nat.le_refl _) hRcells hRslots
  obtain ⟨s', hA⟩ : ∃ z, z = (T.setVm s.vm).setFrames (.invoking m args :: below) := ⟨_, rfl⟩
  rw [← hA] at Y
  have hvm : s'.vm = s.vm := by rw [hA]; rfl
  have hhp : s'.heap = H := by rw [hA]; exact hT
  have hW0 : s.WarmedH s'.vm := by rw [hvm]; exact State.WarmedH.refl s
  have hat' : ∀ w ∈ vx_atS own ic cls names, w.before args s' = true := fun w hw => vx_ot_at hW0 hvm.symm (hgood w (List.mem_cons_of_mem _ (List.mem_cons_of_mem _ hw))) (hat w hw)
  have hk' : (Cond.classLink own ik cls).before args s' = true := vx_ot_at hW0 hvm.symm (hgood _ List.mem_cons_self) hk
  have hini' : (Cond.initialized cls).before args s' = true := vx_ot_at hW0 hvm.symm (hgood _ (List.mem_cons_of_mem _ List.mem_cons_self)) hini
  have hU' : vx_Zq Bundle.tN "UNASSIGNED_STACK" Bundle.steD A s' s'.heap := by rw [hhp]; exact vx_Zq.moved hW0.alike (hU.kept hS.2.1)
  have hN' : vx_Zq Bundle.tN "SUPPRESSED_SENTINEL" Bundle.listD A s' s'.heap := by rw [hhp]; exact vx_Zq.moved hW0.alike (hN.kept hS.2.1)
  have h : ∀ w ∈ Bundle.ownAtoms own ic cls names, w.before args s' = true := vx_own hat' (vx_isRefq hU'.1) (vx_isRefq hN'.1) hU'.2.word hN'.2.word
  have hown' : s'.vm.findClass own = some m.cls := by rw [hvm]; exact hown
  have hins : (Cond.instantiable cls 6).before args s' = true := h _ (by simp [Bundle.ownAtoms])
  obtain ⟨vm₁, cX, kX, hfX, hkX, -, -, X₁, st1⟩ := Y.newCold hexec (own := own) (C := cls) (index := ik) (n := 6) hown' hk' hins hini'
    (g := F0 m pc ls rest) rfl (by rw [hb]; exact d0) (Nat.le_refl _) (Nat.le_refl _)
  generalize hT1 : (T.setVm vm₁).pushCell { cls := cX, slots := kX.instanceTypes.map defaultValue, vm := .none } = T1 at X₁ st1
  have hcat : (Value.ref T.heap.size).category = 1 := rfl
  have hcellA : T1.heap[T.heap.size]? = some (freshCell cX kX) := by rw [← hT1]; exact State.heap_pushCell_size _ _
  have d3' : decode c.code (pc + 3) = .ok (.dup, 1) := by rw [hb]; exact d3
  have d4' : decode c.code (pc + 4) = .ok (.ldc is, 2) := by rw [hb]; exact d4
  have hstr' : vk_R own is text sa s' := vk_R.warm hW0 hstr
  obtain ⟨U, hsteps, hrun, hend, hW, hsame, ce, hce, hO⟩ := X₁.ctorThrowS hexec htr (own := own) (cls := cls) (names := names) (ic := ic) hown' hcls hnames h (fun x hx => nomatch hx) hfX hkX hcellA (by rw [hhp, hT]; exact Nat.le_refl _) (msg := .ref sa) rfl
    (g := { method := m, pc := pc + 6, locals := ls, stack := .ref sa :: .ref T.heap.size :: .ref T.heap.size :: rest, locked := none }) rfl hsize rfl rfl (rest := rest) rfl
    (by rw [hb]; exact d6) (by rw [hb]; exact d9) hout hRframes (by simp only [List.map_cons, List.sum_cons, hcat]; omega) hlocks
  obtain ⟨f1, f2⟩ := vx_frame hsame
  rw [hhp] at f1 f2
  have hWs : s.WarmedH U.vm := State.WarmedH.trans hW0 hW
  have hcl : s.vm.findClass cls = some ce.cls := by
    have h9 := hO.cls
    rw [hvm] at h9
    exact h9
  have hall : s.sameButNew ({ U with vm := s.vm } : State) locs mc ms := by
    subst hA
    obtain ⟨e1, e2⟩ := hsame
    rw [State.setFrames_setFrames] at e1
    have h2 : (T.setVm s.vm).sameButNew ({ U with vm := s.vm } : State) [] (0 + 1) (0 + 6) := ⟨e1, e2⟩
    have h3 := X.same.trans h2
    rw [List.append_nil] at h3
    exact h3.mono hc hs
  refine ⟨U, ?_, .threw T.heap.size, hrun, hend, Or.inr ⟨T.heap.size, rfl, cls, ce, locs, hx U hWs.alike f1 (fun q hq => f2 q hq (fun z hz => nomatch hz)), hce, hO.vm, hcl, hWs, hall, hf⟩⟩
  refine st1 _ ?_
  show Steps p.tables e below (T1.setTop { method := m, pc := pc + 3, locals := ls, stack := .ref T.heap.size :: rest, locked := none }) _
  jvm_step X₁.here [X₁.here.top, hexec, d3', Value.category]
  exact X₁.ldcString hexec (own := own) (text := text) (index := is) (a := sa) hown' hstr'.1 hstr'.2
    (g := { method := m, pc := pc + 4, locals := ls, stack := .ref T.heap.size :: .ref T.heap.size :: rest, locked := none }) rfl d4' _ hsteps
/-- 'throw new E("text")', the text by a wide index -/
theorem vx_throwSW {cc : ByteArray} {pc : Nat} (hexec : p.tables.exec = Jvm.exec) (hb : c.code = cc) (hl : l.stackTraces = false) {own cls text : String} {names : List String} {ik is ic mc ms sa : Nat} {A : Nat → Prop}
    (hown : s.vm.findClass own = some m.cls) (hcls : Bundle.fit cls = true) (hnames : ∀ n ∈ names, Bundle.fit n = true)
    (hk : (Cond.classLink own ik cls).before args s = true) (hini : (Cond.initialized cls).before args s = true) (hstr : vk_R own is text sa s) (hat : ∀ w ∈ vx_atS own ic cls names, w.before args s = true)
    (hgood : ∀ w ∈ Cond.classLink own ik cls :: Cond.initialized cls :: vx_atS own ic cls names, vx_ot w = true)
    (hU : vx_Zq Bundle.tN "UNASSIGNED_STACK" Bundle.steD A s s.heap) (hN : vx_Zq Bundle.tN "SUPPRESSED_SENTINEL" Bundle.listD A s s.heap) (hS : va_S A s.heap H locs) (hsize : ls.size = c.maxLocals)
    (d0 : decode cc pc = .ok (.new ik, 3)) (d3 : decode cc (pc + 3) = .ok (.dup, 1)) (d4 : decode cc (pc + 4) = .ok (.ldc_w is, 3)) (d7 : decode cc (pc + 7) = .ok (.invokespecial ic, 3)) (d10 : decode cc (pc + 10) = .ok (.athrow, 1))
    (hout : ∀ x ∈ c.exceptionTable.toList, covers x (pc + 10) = false)
    (hRframes : names.length + 3 < R.frames) (hRlocals : (rest.map fun v => v.category).sum + (13 * (names.length + 1) + 43) ≤ R.locals) (hRcells : cells + 1 ≤ R.cells) (hRslots : slots + 6 ≤ R.slots) (hlocks : meth.locks = false)
    (hx : ∀ t : State, s.vm.Alike t.vm → H.size ≤ t.heap.size → (∀ q : Nat, q < H.size → t.heap[q]? = H[q]?) → XC cls s t)
    (hf : ∀ z ∈ locs, free z.base) (hc : cells + 1 ≤ mc) (hs : slots + 6 ≤ ms) :
    W p l e R s m args below meth c H locs cells slots (vx_MQ below Qc XC args s mc ms free) (F0 m pc ls rest) := by
  intro T hT X
  have htr : e.platform.stackTraces = false := (show e.platform.stackTraces = l.stackTraces by rw [X.admits.platform]).trans hl
  have Y := vx_rebase X (R' := { frames := R.frames, locals := R.locals, cells := 1, slots := 6 }) (Nat.le_refl _) (Nat.le_refl _) hRcells hRslots
  obtain ⟨s', hA⟩ : ∃ z, z = (T.setVm s.vm).setFrames (.invoking m args :: below) := ⟨_, rfl⟩
  rw [← hA] at Y
  have hvm : s'.vm = s.vm := by rw [hA]; rfl
  have hhp : s'.heap = H := by rw [hA]; exact hT
  have hW0 : s.WarmedH s'.vm := by rw [hvm]; exact State.WarmedH.refl s
  have hat' : ∀ w ∈ vx_atS own ic cls names, w.before args s' = true := fun w hw => vx_ot_at hW0 hvm.symm (hgood w (List.mem_cons_of_mem _ (List.mem_cons_of_mem _ hw))) (hat w hw)
  have hk' : (Cond.classLink own ik cls).before args s' = true := vx_ot_at hW0 hvm.symm (hgood _ List.mem_cons_self) hk
  have hini' : (Cond.initialized cls).before args s' = true := vx_ot_at hW0 hvm.symm (hgood _ (List.mem_cons_of_mem _ List.mem_cons_self)) hini
  have hU' : vx_Zq Bundle.tN "UNASSIGNED_STACK" Bundle.steD A s' s'.heap := by rw [hhp]; exact vx_Zq.moved hW0.alike (hU.kept hS.2.1)
  have hN' : vx_Zq Bundle.tN "SUPPRESSED_SENTINEL" Bundle.listD A s' s'.heap := by rw [hhp]; exact vx_Zq.moved hW0.alike (hN.kept hS.2.1)
  have h : ∀ w ∈ Bundle.ownAtoms own ic cls names, w.before args s' = true := vx_own hat' (vx_isRefq hU'.1) (vx_isRefq hN'.1) hU'.2.word hN'.2.word
  have hown' : s'.vm.findClass own = some m.cls := by rw [hvm]; exact hown
  have hins : (Cond.instantiable cls 6).before args s' = true := h _ (by simp [Bundle.ownAtoms])
  obtain ⟨vm₁, cX, kX, hfX, hkX, -, -, X₁, st1⟩ := Y.newCold hexec (own := own) (C := cls) (index := ik) (n := 6) hown' hk' hins hini'
    (g := F0 m pc ls rest) rfl (by rw [hb]; exact d0) (Nat.le_refl _) (Nat.le_refl _)
  generalize hT1 : (T.setVm vm₁).pushCell { cls := cX, slots := kX.instanceTypes.map defaultValue, vm := .none } = T1 at X₁ st1
  have hcat : (Value.ref T.heap.size).category = 1 := rfl
  have hcellA : T1.heap[T.heap.size]? = some (freshCell cX kX) := by rw [← hT1]; exact State.heap_pushCell_size _ _
  have d3' : decode c.code (pc + 3) = .ok (.dup, 1) := by rw [hb]; exact d3
  have d4' : decode c.code (pc + 4) = .ok (.ldc_w is, 3) := by rw [hb]; exact d4
  have hstr' : vk_R own is text sa s' := vk_R.warm hW0 hstr
  obtain ⟨U, hsteps, hrun, hend, hW, hsame, ce, hce, hO⟩ := X₁.ctorThrowS hexec htr (own := own) (cls := cls) (names := names) (ic := ic) hown' hcls hnames h (fun x hx => nomatch hx) hfX hkX hcellA (by rw [hhp, hT]; exact Nat.le_refl _) (msg := .ref sa) rfl
    (g := { method := m, pc := pc + 7, locals := ls, stack := .ref sa :: .ref T.heap.size :: .ref T.heap.size :: rest, locked := none }) rfl hsize rfl rfl (rest := rest) rfl
    (by rw [hb]; exact d7) (by rw [hb]; exact d10) hout hRframes (by simp only [List.map_cons, List.sum_cons, hcat]; omega) hlocks
  obtain ⟨f1, f2⟩ := vx_frame hsame
  rw [hhp] at f1 f2
  have hWs : s.WarmedH U.vm := State.WarmedH.trans hW0 hW
  have hcl : s.vm.findClass cls = some ce.cls := by
    have h9 := hO.cls
    rw [hvm] at h9
    exact h9
  have hall : s.sameButNew ({ U with vm := s.vm } : State) locs mc ms := by
    subst hA
    obtain ⟨e1, e2⟩ := hsame
    rw [State.setFrames_setFrames] at e1
    have h2 : (T.setVm s.vm).sameButNew ({ U with vm := s.vm } : State) [] (0 + 1) (0 + 6) := ⟨e1, e2⟩
    have h3 := X.same.trans h2
    rw [List.append_nil] at h3
    exact h3.mono hc hs
  refine ⟨U, ?_, .threw T.heap.size, hrun, hend, Or.inr ⟨T.heap.size, rfl, cls, ce, locs, hx U hWs.alike f1 (fun q hq => f2 q hq (fun z hz => nomatch hz)), hce, hO.vm, hcl, hWs, hall, hf⟩⟩
  refine st1 _ ?_
  show Steps p.tables e below (T1.setTop { method := m, pc := pc + 3, locals := ls, stack := .ref T.heap.size :: rest, locked := none }) _
  jvm_step X₁.here [X₁.here.top, hexec, d3', Value.category]
  exact X₁.ldcStringW hexec (own := own) (text := text) (index := is) (a := sa) hown' hstr'.1 hstr'.2
    (g := { method := m, pc := pc + 4, locals := ls, stack := .ref T.heap.size :: .ref T.heap.size :: rest, locked := none }) rfl d4' _ hsteps
end Ends
section Bodies
variable {l : Launch}
theorem vx_ofW {y : MethodName} {ws ws' : List Cond} {rm : Room} {Pc : Array Value → State → Prop} {Qc : Array Value → State → Outcome → State → Prop} {XC : String → State → State → Prop} {mc ms : Nat} {free : Addr → Prop} {cc : ByteArray} {maxL : Nat} {ret : Option FieldType}
    (hy : plainName y.cls = true) (hw : ws = Cond.code y cc maxL ret :: ws')
    (body : ∀ p e s m args below meth c s₁, BodyLoose p l y (headSpec ws rm) cc maxL ret e s m args below meth c s₁ → c.maxLocals = maxL → (∀ x ∈ c.exceptionTable.toList, False) → Pc args s →
      W p l e (headSpec ws rm).room s m args below meth c s.heap [] 0 0 (vx_MQ below Qc XC args s mc ms free) (entryFrame m args maxL)) : vx_Met l y ws rm Pc Qc XC mc ms free := by
  refine MetFree.of_bodyS (code := cc) (maxLocals := maxL) (ret := ret) hy ?_ ?_
  · intro args s m h hn
    obtain ⟨meth, c, h1, h2, h3, h4, h5, h6, -, -⟩ := Cond.code_spec hn (atoms_spec (ws := ws) h _ (by rw [hw]; exact List.mem_cons_self))
    exact ⟨meth, c, h1, h2, h3, h4, h5, h6⟩
  · intro p e s m args below meth c s₁ B hml hP _
    have hh0 : s₁.heap = s.heap := by rw [B.state]; rfl
    have ht : ∀ x ∈ c.exceptionTable.toList, False := by
      obtain ⟨meth9, c9, h1, h2, -, -, -, -, h7, -⟩ := Cond.code_spec B.named (atoms_spec (ws := ws) B.pre _ (by rw [hw]; exact List.mem_cons_self))
      cases Option.some.inj (h1.symm.trans B.method)
      cases Option.some.inj (h2.symm.trans (Stand.of_body B).code)
      intro x hx
      rw [Array.isEmpty_iff.mp h7] at hx
      cases hx
    obtain ⟨t, a1, o, b1, b2, b3⟩ := body p e s m args below meth c s₁ B hml ht hP s₁ hh0 (Stand.of_body B)
    exact ⟨t, o, a1, b1, b2, b3⟩
/-- the table of a body with handlers -/
theorem vx_table {p : Program} {x y : MethodName} {S : Spec} {cc bytes : ByteArray} {maxL maxL' : Nat} {ret ret' : Option FieldType} {e : Env} {s s₁ : State} {m : MethodId} {args : Array Value} {below : List Frame} {meth : Method} {c : Code} {hh : List (Nat × Nat × Nat × Nat)}
    (B : BodyLoose p l y S cc maxL ret e s m args below meth c s₁) (h : (Cond.codeWith y bytes maxL' ret' hh).before args s = true) : c.exceptionTable.toList = tableOf hh := by
  obtain ⟨m9, meth9, c9, hn9, h1, h2, -, -, h6, -⟩ := Cond.codeWith_spec h
  cases Option.some.inj (hn9.symm.trans B.named)
  cases Option.some.inj (h1.symm.trans B.method)
  cases Option.some.inj (h2.symm.trans (Stand.of_body B).code)
  rw [← h6, table_eq]
end Bodies
end VXA
/-! ===== END ===== -/
/-! ===== BEGIN a static call of a method with an exception table ===== -/
section VXS
variable {p : Program} {l : Launch} {e : Env} {R : Room} {s : State} {m : MethodId} {args : Array Value} {below : List Frame} {meth : Method} {c : Code} {T : State} {H : Heap} {locs : List Loc} {cells slots : Nat}
abbrev vx_CSW (R : Room) (s : State) (args : Array Value) (own : String) (index : Nat) (y : MethodName) (bytes : ByteArray) (maxL : Nat) (ret : Option FieldType) (hh : List (Nat × Nat × Nat × Nat)) (ws : List Cond) (rm : Room) (mc ms n : Nat) : Prop :=
  (rm.cells = mc ∧ rm.slots = ms ∧ rm.frames + 1 ≤ R.frames ∧ 8 + (maxL + 11) + rm.locals ≤ R.locals ∧ (∀ w ∈ ws, ∀ (a' : Array Value) (U : State), s.WarmedH U.vm → w.before a' U = true) ∧ Cond.codeWith y bytes maxL ret hh ∈ ws) ∧
  (Cond.codeWith y bytes maxL ret hh).before args s = true ∧ (Cond.initialized y.cls).before args s = true ∧ (y.cls ≠ "java/lang/invoke/MethodHandle" ∧ y.cls ≠ "java/lang/invoke/VarHandle") ∧
  (∀ sig, parseMethodDescriptor y.desc = some sig → n = sig.parameters.length) ∧ (Cond.methodLink own index y).before args s = true ∧ (Cond.static y).before args s = true
theorem vx_cwSW {own : String} {index maxL mc ms : Nat} {y : MethodName} {bytes : ByteArray} {ret : Option FieldType} {hh : List (Nat × Nat × Nat × Nat)} {Ts ws ws' : List Cond} {rm : Room} (n : Nat) (ht : ∀ w ∈ Ts, w.before args s = true) (hT : GoodIn Ts (va_wsS own index y ws)) (hw : ws = Cond.codeWith y bytes maxL ret hh :: ws') (hrc : rm.cells = mc) (hrs : rm.slots = ms)
    (hd : y.cls ≠ "java/lang/invoke/MethodHandle" ∧ y.cls ≠ "java/lang/invoke/VarHandle" ∧ (parseMethodDescriptor y.desc).map (fun d => d.parameters.length) = some n) (hR : rm.frames + 1 ≤ R.frames ∧ 8 + (maxL + 11) + rm.locals ≤ R.locals) :
    vx_CSW R s args own index y bytes maxL ret hh ws rm mc ms n := by
  have ok : ∀ w ∈ va_wsS own index y ws, w.before args s = true := fun w h => ht w (hT w h).1
  have hG : GoodIn Ts ws := fun w h => hT w (by unfold va_wsS; exact List.mem_append_right _ h)
  have hc : Cond.codeWith y bytes maxL ret hh ∈ ws := by rw [hw]; exact List.mem_cons_self
  refine ⟨⟨hrc, hrs, hR.1, hR.2, pay_in ht hG, hc⟩, ht _ (hG _ hc).1, ok _ (by simp [va_wsS]), ⟨hd.1, hd.2.1⟩, fun sig h => ?_, ok _ (by simp [va_wsS]), ok _ (by simp [va_wsS])⟩
  have h2 := hd.2.2
  rw [h] at h2
  exact (Option.some.inj h2).symm
theorem vx_callSW (X : Stand p l e R s m args below meth c T locs cells slots) (hexec : p.tables.exec = Jvm.exec) {own : String} {index : Nat} {y : MethodName} {bytes : ByteArray} {maxL : Nat} {ret : Option FieldType} {hh : List (Nat × Nat × Nat × Nat)}
    (hown : s.vm.findClass own = some m.cls) (hlink : (Cond.methodLink own index y).before args s = true) (hstat : (Cond.static y).before args s = true) (hinit : (Cond.initialized y.cls).before args s = true)
    (hcode : (Cond.codeWith y bytes maxL ret hh).before args s = true) (hy : y.cls ≠ "java/lang/invoke/MethodHandle" ∧ y.cls ≠ "java/lang/invoke/VarHandle")
    {W9 : Nat} {Pre : Pt → Array Value → Prop} {Post : Pt → Array Value → Option Value → Pt → Prop} (hK : Back l R p e below s args y 3 W9 Pre Post)
    {g : JFrame} (hg : g.method = m) (hsize : g.locals.size = c.maxLocals) {argsL rest : List Value} (hlen : ∀ sig, parseMethodDescriptor y.desc = some sig → argsL.length = sig.parameters.length)
    (hstack : g.stack = argsL.reverse ++ rest) (hW : 2 * g.monitorRoom + (rest.map fun v => v.category).sum ≤ W9) (hdg : decode c.code g.pc = .ok (.invokestatic index, 3))
    (hpre : ∀ vm₁, s.WarmedH vm₁ → Pre ⟨T.setVm vm₁, locs, cells, slots⟩ argsL.toArray) :
    ∃ (v : Option Value) (vm₁ : Vm) (B : Pt), s.WarmedH vm₁ ∧ Stand p l e R s m args below meth c B.U B.locs B.cells B.slots ∧ Post ⟨T.setVm vm₁, locs, cells, slots⟩ argsL.toArray v B ∧
      ∀ target, Steps p.tables e below (B.U.setTop { g with pc := g.pc + 3, stack := v.toList ++ rest }) target → Steps p.tables e below (T.setTop g) target := by
  obtain ⟨mk, methM, cM, hnamed, hmethM, -, -, -, -, -, -, hsigM⟩ := Cond.codeWith_spec hcode
  have hstatic : methM.isStatic = true := Cond.static_spec hnamed hmethM hstat
  obtain ⟨kP, hkP, -⟩ := className_of_methodNamed hnamed
  have hinitP : kP.init = .initialized := Cond.initialized_spec (findClass_of_methodNamed hnamed) hkP hinit
  obtain ⟨vm₁, X₁, hstep₁⟩ := X.invokestatic hexec hown hlink hnamed hmethM hstatic hkP hinitP hy (g := g) hg (argsL := argsL) (rest := rest) (hlen _ hsigM) hstack hdg
  obtain ⟨v, B, X', hpost, hsteps⟩ := hK m meth c ⟨T.setVm vm₁, locs, cells, slots⟩ { g with stack := rest } (.invokestatic index) mk argsL.toArray X₁ hg hsize hdg hW (X₁.named hnamed) (hpre vm₁ X₁.warmed)
  exact ⟨v, vm₁, B, X₁.warmed, X', hpost, fun target h => hstep₁ _ fun acts => by rw [doInvoke_state]; exact hsteps.trans h⟩
theorem vx_runSW {y : MethodName} {bytes cc : ByteArray} {maxL nL mc ms n index : Nat} {ret : Option FieldType} {hh : List (Nat × Nat × Nat × Nat)} {ws : List Cond} {rm : Room} {Pc : Array Value → State → Prop} {Qc : Array Value → State → Outcome → State → Prop} {free : Addr → Prop} {Ts : List Cond} {own : String} {As rest : List Value} {g : JFrame}
    (S : CallFix p m c cc nL s args Ts own) (hM : Met l y ws rm Pc Qc mc ms free) (cw : vx_CSW R s args own index y bytes maxL ret hh ws rm mc ms n) (hp : PreS s H Pc As)
    (hg : g.method = m) (hn : As.length = n) (hsize : g.locals.size = nL) (hstack : g.stack = As.reverse ++ rest) (hW : 2 * g.monitorRoom + (rest.map fun v => v.category).sum ≤ 8) (hdg : decode cc g.pc = .ok (.invokestatic index, 3)) (hf : cells + mc ≤ R.cells ∧ slots + ms ≤ R.slots) :
    va_Run p l e R s m args below meth c H locs cells slots mc ms g rest (Qc As.toArray) (free) := by
  obtain ⟨⟨hrc, hrs, hfr, hlo, hws, hcw⟩, hcode, hini, hy, hlen, hl, hstt⟩ := cw
  have hK : Back l R p e below s args y 3 8 (PreOf R mc ms Pc) (PostOf Qc mc ms free) := va_backW (hh := hh) (bytes := bytes) (maxL := maxL) (ret := ret) hM hp.1 hrc hrs hfr hlo hws hcw (fun a' U hW => word_at hW (Or.inl (by first | rfl | simp [Cond.onTables, Cond.keeps, Cond.steady])) hini)
  obtain ⟨hx, hb, hml, ho, -⟩ := S
  intro T hT X
  obtain ⟨v, vm₁, ⟨U', l2, c2, s2⟩, hW₁, X', ⟨g', mk, t, L, e1, e2, hq, h1, hL, h2, h3⟩, st⟩ := vx_callSW X hx (hh := hh) (bytes := bytes) (maxL := maxL) (ret := ret) ho hl hstt hini hcode hy hK hg (hsize.trans hml.symm) (argsL := As) (rest := rest) (fun sig h => hn.trans (hlen sig h)) hstack hW (by rw [hb]; exact hdg)
    (fun vm₁ hW₁ => ⟨hf.1, hf.2, hp.2 (T.setVm vm₁) hT hW₁⟩)
  dsimp only [Pt.U, Pt.locs, Pt.cells, Pt.slots] at X' e1 e2 h1 h2 h3 st
  subst h1; subst h2; subst h3
  exact ⟨v, (T.setVm vm₁).calling g' mk As.toArray, t, U', L, hT, X', hL, e1, e2, hq, st⟩
/-- not caught here, past rows that name other classes: it goes on to the caller -/
theorem vx_outP {p : Program} {l : Launch} {e : Env} {R : Room} {s : State} {m : MethodId} {args : Array Value} {below : List Frame} {meth : Method} {c : Code} {H : Heap} {locs : List Loc} {cells slots : Nat} {free : Addr → Prop} {ls : Array Slot} {rest : List Value} {Qc : Array Value → State → Outcome → State → Prop} {XC : String → State → State → Prop}
    {pc : Nat} {own E : String} {ce : Cell} {q : Addr} {mc ms : Nat} (hown : s.vm.findClass own = some m.cls) (hlocks : meth.locks = false)
    (hpass : ∀ z ∈ c.exceptionTable.toList, covers z pc = false ∨ (z.catchType ≠ 0 ∧ ∃ nm : String, (Cond.classLink own z.catchType nm).before args s = true ∧ va_Nc E nm s)) (hcell : H[q]? = some ce) (hv : ce.vm = .none) (hcl : s.vm.findClass E = some ce.cls)
    (hx : ∀ t : State, t.heap = H → s.vm.Alike t.vm → XC E s t) (hf : ∀ z ∈ locs, free z.base) (hc : cells ≤ mc) (hs : slots ≤ ms) :
    vx_W p l e R s m args below meth c H locs cells slots (vx_MQ below Qc XC args s mc ms free) (F0 m pc ls rest) q := by
  intro T hT X
  have hpl : e.platform.magicAccessors = ({} : Platform).magicAccessors := by rw [X.admits.platform]
  obtain ⟨vm', hW', X', st⟩ := X.outThrough hlocks q (g := F0 m pc ls rest) rfl rfl rfl (cell := ce) (by rw [hT]; exact hcell) (by rw [hv]; rfl)
    (by obtain ⟨k9, h9, -⟩ := Vm.findClass_spec hcl; exact ⟨k9, h9⟩) (fun z hz => by
      rcases hpass z hz with h | ⟨hz0, nm, hl1, hn1⟩
      · exact Or.inl h
      · obtain ⟨c6, hc6, hcl6⟩ := Cond.classLink_spec hown hl1 e.platform hpl
        obtain ⟨a8, b8, h1, h2, h3⟩ := hn1
        cases Option.some.inj (h1.symm.trans hcl)
        cases Option.some.inj (h2.symm.trans hc6)
        exact Or.inr ⟨hz0, _, hcl6, h3⟩)
  obtain ⟨g₀, hfr⟩ := X'.frames_eq
  have hcell9 : ((T.setVm vm').setFrames (.throwing q :: below)).heap[q]? = some ce := by
    show T.heap[q]? = some ce
    rw [hT]; exact hcell
  have hend : Ended ((T.setVm vm').setFrames (.throwing q :: below)) below (.threw q) := State.frames_setFrames _ (State.cur_lt_of_frames hfr)
  refine ⟨(T.setVm vm').setFrames (.throwing q :: below), ?_, .threw q, X'.here.running, hend, Or.inr ⟨q, rfl, E, ce, locs, hx _ hT (X'.ends _).1.alike, hcell9, hv, hcl, (X'.ends _).1, (X'.ends _).2.mono hc hs, hf⟩⟩
  rw [X.pushThrowing_eq]
  exact st
/-- a thing of a world lies in the heap -/
theorem vx_lt {D : va_G} {cl : List vw_C} {ws : va_W} {H1 : Heap} (h : va_P D cl ws H1) {k : Nat} {q : Nat × va_E} (hk : ws[k]? = some q) : q.1 < H1.size := (h k q hk).lt
end VXS
/-! ===== END ===== -/
/-! ===== BEGIN methods with a table of their own: called by a name, returning or throwing ===== -/
section VXH
/-! vx_backW, vx_callVX, vx_callSX, vx_callVW, vx_runVW, vx_runVX, vx_runSX, vx_ofWH follow the same proofs as their sisters above (Free/Laws.lean, Shelf42/LK1.lean); vx_outP calls Shelf42/NT130.lean (outThrough). -/
section
variable {l : Launch} {R : Room} {p : Program} {e : Env} {below : List Frame} {s : State} {sargs : Array Value} {y : MethodName} {len W9 : Nat}
theorem vx_backW {ws : List Cond} {rm : Room} {Pc : Array Value → State → Prop} {Qc : Array Value → State → Outcome → State → Prop} {XC : String → State → State → Prop} {mc ms : Nat} {free : Addr → Prop} {bytes : ByteArray} {maxL : Nat} {ret : Option FieldType} {hh : List (Nat × Nat × Nat × Nat)}
    (hM : vx_Met l y ws rm Pc Qc XC mc ms free) (hblind : FrameBlind Pc) (hrc : rm.cells = mc) (hrs : rm.slots = ms)
    (hframes : rm.frames + 1 ≤ R.frames) (hlocals : W9 + (maxL + 11) + rm.locals ≤ R.locals)
    (hws : ∀ w ∈ ws, ∀ a' U, s.WarmedH U.vm → w.before a' U = true) (hcode : Cond.codeWith y bytes maxL ret hh ∈ ws) (hinit : ∀ a' U, s.WarmedH U.vm → (Cond.initialized y.cls).before a' U = true) :
    vx_Back l R p e below s sargs y len W9 (PreOf R mc ms Pc) (PostOf Qc mc ms free) (vx_Post XC mc ms free) := by
  intro m meth c A g ig mk a X hg hsize hdg hW hn hp
  have h1 : (headSpec ws rm).pre.before a A.U = true := atoms_intro fun w hw => hws w hw _ _ X.warmed
  have h2 : (Cond.codeWith y bytes maxL ret hh).before a A.U = true := hws _ hcode _ _ X.warmed
  have h3 : (Cond.initialized y.cls).before a A.U = true := hinit _ _ X.warmed
  have h4 : A.cells + (headSpec ws rm).room.cells ≤ R.cells := by rw [show (headSpec ws rm).room.cells = mc from hrc]; exact hp.1
  have h5 : A.slots + (headSpec ws rm).room.slots ≤ R.slots := by rw [show (headSpec ws rm).room.slots = ms from hrs]; exact hp.2.1
  have hPc : Pc a (A.U.calling g mk a) := hblind _ _ _ _ hp.2.2
  obtain ⟨U, Ls, c0, s0⟩ := A
  dsimp only [Pt.U, Pt.locs, Pt.cells, Pt.slots] at h1 h2 h3 h4 h5 X hn hPc ⊢
  obtain ⟨m9, methY, cY, hn9, hmY, hcY, -, hlY, -⟩ := Cond.codeWith_spec h2
  cases Option.some.inj (hn9.symm.trans hn)
  obtain ⟨kY, hkY, -⟩ := className_of_methodNamed hn
  have hinitY : kY.init = .initialized := Cond.initialized_spec (findClass_of_methodNamed hn) hkY h3
  have h : At U g.method c below := by rw [hg]; exact X.here
  have hlocals9 : W9 + (maxL + 11) + (headSpec ws rm).room.locals ≤ R.locals := hlocals
  have happ : (headSpec ws rm).appliesLoose y e.platform (U.calling g mk a) = true :=
    Spec.appliesLoose_calling (g := g) h hdg hn hkY hinitY
      (X.room_calling (g := g) (R' := (headSpec ws rm).room) hsize hmY hcY hframes (by rw [hlY]; omega) h4 h5) h1
  obtain ⟨mid, hmid⟩ := h.above
  have hfr : (U.setTop g).frames = (.java g :: mid) ++ below := by rw [State.frames_setTop' g h.top, hmid]; rfl
  obtain ⟨o, s₂, hsteps, -, hend, hq⟩ := Steps.callFree hM p X.admits X.cas X.clock (acts := []) hfr happ hPc trivial
  have hq' : vx_Q Qc XC mc ms free a (U.calling g mk a) o s₂ := hq
  rw [State.frames_setTop' g h.top] at hend
  obtain ⟨g₀, hg0⟩ := Option.isSome_iff_exists.mp h.top
  obtain ⟨r, hr⟩ := State.topJava?_eq_some.mp hg0
  have hr' : (({ U with heap := s₂.heap, slotsUsed := s₂.slotsUsed } : State).setVm s₂.vm).frames = .java g₀ :: r := hr
  rcases hq' with ⟨hqc, L, hfe, hL⟩ | ⟨q, rfl, E, ce, L, hx, hce, hcv, hcl, hW₂, hsm, hL⟩
  · obtain ⟨⟨v, rfl⟩, hW₂, e2, q2, q3, q4, q5, q6⟩ := id hfe
    have e3 : s₂ = ({ (U.calling g mk a).setFrames s₂.frames with heap := s₂.heap, slotsUsed := s₂.slotsUsed } : State).setVm s₂.vm := by
      have : s₂ = ({ s₂ with vm := (U.calling g mk a).vm } : State).setVm s₂.vm := rfl
      rw [e2] at this
      exact this
    obtain ⟨c₂, i₂, len₂, hc₂, hd₂, hf₂⟩ := hend
    have hW' : U.WarmedH s₂.vm := hW₂
    have hcc : c₂ = c := by
      have h1 : s₂.code? g.method = U.code? g.method := by
        rw [State.code?_eq, State.code?_eq, hW'.alike.method?]
      exact Option.some.inj (hc₂.symm.trans (h1.trans h.code))
    subst hcc
    have hlen : len₂ = len := by rw [hdg] at hd₂; cases hd₂; rfl
    subst hlen
    have hs₂ : s₂ = (({ U with heap := s₂.heap, slotsUsed := s₂.slotsUsed } : State).setVm s₂.vm).setTop { g with pc := g.pc + len₂, stack := v.toList ++ g.stack } := by
      refine e3.trans ?_
      rw [hf₂, State.calling_eq h.top, State.setFrames_setFrames, State.setTop_of_frames _ hr', hr]
      rfl
    have hsame : U.sameButNew ({ U with heap := s₂.heap, slotsUsed := s₂.slotsUsed } : State) L mc ms := by
      refine ⟨?_, q2, q3, q4, q5, q6⟩
      obtain ⟨t, ht, -⟩ := State.frames_cons hr
      show ({ U with heap := s₂.heap, slotsUsed := s₂.slotsUsed } : State) = { U.setFrames U.frames with heap := s₂.heap, slotsUsed := s₂.slotsUsed }
      rw [State.setFrames_self ht]
    subst hg
    refine Or.inl ⟨v, ⟨(({ U with heap := s₂.heap, slotsUsed := s₂.slotsUsed } : State).setVm s₂.vm), Ls ++ L, c0 + mc, s0 + ms⟩,
      ⟨X.admits, X.cas, X.clock, X.frames, X.room, X.hears, X.method, X.code, (X.here.setHeapUsed s₂.heap s₂.slotsUsed).setVm hW'.alike, X.tail, State.WarmedH.trans X.warmed hW', X.limits, X.bytes, X.same.trans (hsame.setVm s.vm)⟩,
      ⟨g, mk, s₂, L, rfl, rfl, hqc, rfl, hL, rfl, rfl⟩, ?_⟩
    show Steps p.tables e below _ ((({ U with heap := s₂.heap, slotsUsed := s₂.slotsUsed } : State).setVm s₂.vm).setTop { g with pc := g.pc + len₂, stack := v.toList ++ g.stack })
    rw [← hs₂]
    exact hsteps
  · obtain ⟨e2, q2, q3, q4, q5, q6⟩ := id hsm
    have e3 : s₂ = ({ (U.calling g mk a).setFrames s₂.frames with heap := s₂.heap, slotsUsed := s₂.slotsUsed } : State).setVm s₂.vm := by
      have : s₂ = ({ s₂ with vm := (U.calling g mk a).vm } : State).setVm s₂.vm := rfl
      rw [e2] at this
      exact this
    have hf₂ : s₂.frames = .throwing q :: .java g :: U.frames.tail := hend
    have hW' : U.WarmedH s₂.vm := hW₂
    have hs₂ : s₂ = ((({ U with heap := s₂.heap, slotsUsed := s₂.slotsUsed } : State).setVm s₂.vm).setTop g).pushFrame (.throwing q) := by
      refine e3.trans ?_
      rw [hf₂, State.calling_eq h.top, State.setFrames_setFrames, State.pushFrame, State.frames_setTop _ hr', State.setTop_of_frames _ hr', State.setFrames_setFrames, hr]
      rfl
    have hsame : U.sameButNew ({ U with heap := s₂.heap, slotsUsed := s₂.slotsUsed } : State) L mc ms := by
      refine ⟨?_, q2, q3, q4, q5, q6⟩
      obtain ⟨t, ht, -⟩ := State.frames_cons hr
      show ({ U with heap := s₂.heap, slotsUsed := s₂.slotsUsed } : State) = { U.setFrames U.frames with heap := s₂.heap, slotsUsed := s₂.slotsUsed }
      rw [State.setFrames_self ht]
    subst hg
    refine Or.inr ⟨q, ⟨(({ U with heap := s₂.heap, slotsUsed := s₂.slotsUsed } : State).setVm s₂.vm), Ls ++ L, c0 + mc, s0 + ms⟩,
      ⟨X.admits, X.cas, X.clock, X.frames, X.room, X.hears, X.method, X.code, (X.here.setHeapUsed s₂.heap s₂.slotsUsed).setVm hW'.alike, X.tail, State.WarmedH.trans X.warmed hW', X.limits, X.bytes, X.same.trans (hsame.setVm s.vm)⟩,
      ⟨g, mk, s₂, L, E, ce, rfl, rfl, hx, hce, hcv, hcl, rfl, hL, rfl, rfl⟩, ?_⟩
    show Steps p.tables e below _ (((({ U with heap := s₂.heap, slotsUsed := s₂.slotsUsed } : State).setVm s₂.vm).setTop g).pushFrame (.throwing q))
    rw [← hs₂]
    exact hsteps
end
variable {p : Program} {l : Launch} {e : Env} {R : Room} {s : State} {m : MethodId} {args : Array Value} {below : List Frame} {meth : Method} {c : Code} {T : State} {H : Heap} {locs : List Loc} {cells slots : Nat}
theorem vx_callVX (X : Stand p l e R s m args below meth c T locs cells slots) (hexec : p.tables.exec = Jvm.exec) {own C : String} {index : Nat} {y : MethodName} {bytes : ByteArray} {maxL : Nat} {ret : Option FieldType} {hh : List (Nat × Nat × Nat × Nat)}
    (hown : s.vm.findClass own = some m.cls) (hlink : (Cond.methodLink own index y).before args s = true) (hinst : (Cond.instanceMethod y).before args s = true) (hsel : (Cond.selects C y y).before args s = true)
    (hcode : (Cond.codeWith y bytes maxL ret hh).before args s = true) (hy : y.cls ≠ "java/lang/invoke/MethodHandle" ∧ y.cls ≠ "java/lang/invoke/VarHandle")
    {W9 : Nat} {Pre : Pt → Array Value → Prop} {Post : Pt → Array Value → Option Value → Pt → Prop} {PostX : Pt → Array Value → Addr → Pt → Prop} (hK : vx_Back l R p e below s args y 3 W9 Pre Post PostX)
    {b : Addr} {cellB : Cell} (hcell : T.heap[b]? = some cellB) (hobj : cellB.vm.isStatics = false) (hcls : s.vm.findClass C = some cellB.cls)
    {g : JFrame} (hg : g.method = m) (hsize : g.locals.size = c.maxLocals) {argsL rest : List Value} (hlen : ∀ sig, parseMethodDescriptor y.desc = some sig → argsL.length = sig.parameters.length)
    (hstack : g.stack = argsL.reverse ++ .ref b :: rest) (hW : 2 * g.monitorRoom + (rest.map fun v => v.category).sum ≤ W9) (hdg : decode c.code g.pc = .ok (.invokevirtual index, 3))
    (hpre : ∀ vm₁, s.WarmedH vm₁ → Pre ⟨T.setVm vm₁, locs, cells, slots⟩ (Value.ref b :: argsL).toArray) :
    (∃ (v : Option Value) (vm₁ : Vm) (B : Pt), s.WarmedH vm₁ ∧ Stand p l e R s m args below meth c B.U B.locs B.cells B.slots ∧ Post ⟨T.setVm vm₁, locs, cells, slots⟩ (Value.ref b :: argsL).toArray v B ∧
      ∀ target, Steps p.tables e below (B.U.setTop { g with pc := g.pc + 3, stack := v.toList ++ rest }) target → Steps p.tables e below (T.setTop g) target) ∨
    (∃ (q : Addr) (vm₁ : Vm) (B : Pt), s.WarmedH vm₁ ∧ Stand p l e R s m args below meth c B.U B.locs B.cells B.slots ∧ PostX ⟨T.setVm vm₁, locs, cells, slots⟩ (Value.ref b :: argsL).toArray q B ∧
      Steps p.tables e below (T.setTop g) ((B.U.setTop { g with stack := rest }).pushFrame (.throwing q))) := by
  obtain ⟨mk, methM, hnamed, hmethM, hstM, habM⟩ := Cond.instanceMethod_spec hinst
  obtain ⟨m8, methM', cM, hn8, hmethM', -, -, -, -, -, -, hsigM⟩ := Cond.codeWith_spec hcode
  cases Option.some.inj (hn8.symm.trans hnamed)
  cases hmethM.symm.trans hmethM'
  obtain ⟨c2, r2, m2, q1, q2, q3, q4, kP, hkP, hkPi⟩ := Cond.selects_spec hsel
  cases hcls.symm.trans q1
  cases (State.methodFound?_of_named hnamed hy).symm.trans q2
  cases hnamed.symm.trans q3
  have hselP : selectMethod e.platform s.vm cellB.cls mk = .method mk := by rw [Launch.admits_selectMethod X.admits]; exact q4
  obtain ⟨vm₁, X₁, hstep₁⟩ := X.invokevirtual hexec hown hlink hnamed hmethM hstM hkP hkPi hy (a := b) (cell := cellB) hcell
    (fun z h => by rw [h] at hobj; cases hobj) hselP hmethM habM hkP hkPi (g := g) hg (argsL := argsL) (rest := rest) (hlen _ hsigM) hstack hdg
  rcases hK m meth c ⟨T.setVm vm₁, locs, cells, slots⟩ { g with stack := rest } (.invokevirtual index) mk (Value.ref b :: argsL).toArray X₁ hg hsize hdg hW (X₁.named hnamed) (hpre vm₁ X₁.warmed) with ⟨v, B, X', hpost, hsteps⟩ | ⟨q, B, X', hpost, hsteps⟩
  · exact Or.inl ⟨v, vm₁, B, X₁.warmed, X', hpost, fun target h => hstep₁ _ fun acts => by rw [doInvoke_state]; exact hsteps.trans h⟩
  · exact Or.inr ⟨q, vm₁, B, X₁.warmed, X', hpost, hstep₁ _ fun acts => by rw [doInvoke_state]; exact hsteps⟩
theorem vx_callSX (X : Stand p l e R s m args below meth c T locs cells slots) (hexec : p.tables.exec = Jvm.exec) {own : String} {index : Nat} {y : MethodName} {bytes : ByteArray} {maxL : Nat} {ret : Option FieldType} {hh : List (Nat × Nat × Nat × Nat)}
    (hown : s.vm.findClass own = some m.cls) (hlink : (Cond.methodLink own index y).before args s = true) (hstat : (Cond.static y).before args s = true) (hinit : (Cond.initialized y.cls).before args s = true)
    (hcode : (Cond.codeWith y bytes maxL ret hh).before args s = true) (hy : y.cls ≠ "java/lang/invoke/MethodHandle" ∧ y.cls ≠ "java/lang/invoke/VarHandle")
    {W9 : Nat} {Pre : Pt → Array Value → Prop} {Post : Pt → Array Value → Option Value → Pt → Prop} {PostX : Pt → Array Value → Addr → Pt → Prop} (hK : vx_Back l R p e below s args y 3 W9 Pre Post PostX)
    {g : JFrame} (hg : g.method = m) (hsize : g.locals.size = c.maxLocals) {argsL rest : List Value} (hlen : ∀ sig, parseMethodDescriptor y.desc = some sig → argsL.length = sig.parameters.length)
    (hstack : g.stack = argsL.reverse ++ rest) (hW : 2 * g.monitorRoom + (rest.map fun v => v.category).sum ≤ W9) (hdg : decode c.code g.pc = .ok (.invokestatic index, 3))
    (hpre : ∀ vm₁, s.WarmedH vm₁ → Pre ⟨T.setVm vm₁, locs, cells, slots⟩ argsL.toArray) :
    (∃ (v : Option Value) (vm₁ : Vm) (B : Pt), s.WarmedH vm₁ ∧ Stand p l e R s m args below meth c B.U B.locs B.cells B.slots ∧ Post ⟨T.setVm vm₁, locs, cells, slots⟩ argsL.toArray v B ∧
      ∀ target, Steps p.tables e below (B.U.setTop { g with pc := g.pc + 3, stack := v.toList ++ rest }) target → Steps p.tables e below (T.setTop g) target) ∨
    (∃ (q : Addr) (vm₁ : Vm) (B : Pt), s.WarmedH vm₁ ∧ Stand p l e R s m args below meth c B.U B.locs B.cells B.slots ∧ PostX ⟨T.setVm vm₁, locs, cells, slots⟩ argsL.toArray q B ∧
      Steps p.tables e below (T.setTop g) ((B.U.setTop { g with stack := rest }).pushFrame (.throwing q))) := by
  obtain ⟨mk, methM, cM, hnamed, hmethM, -, -, -, -, -, -, hsigM⟩ := Cond.codeWith_spec hcode
  have hstatic : methM.isStatic = true := Cond.static_spec hnamed hmethM hstat
  obtain ⟨kP, hkP, -⟩ := className_of_methodNamed hnamed
  have hinitP : kP.init = .initialized := Cond.initialized_spec (findClass_of_methodNamed hnamed) hkP hinit
  obtain ⟨vm₁, X₁, hstep₁⟩ := X.invokestatic hexec hown hlink hnamed hmethM hstatic hkP hinitP hy (g := g) hg (argsL := argsL) (rest := rest) (hlen _ hsigM) hstack hdg
  rcases hK m meth c ⟨T.setVm vm₁, locs, cells, slots⟩ { g with stack := rest } (.invokestatic index) mk argsL.toArray X₁ hg hsize hdg hW (X₁.named hnamed) (hpre vm₁ X₁.warmed) with ⟨v, B, X', hpost, hsteps⟩ | ⟨q, B, X', hpost, hsteps⟩
  · exact Or.inl ⟨v, vm₁, B, X₁.warmed, X', hpost, fun target h => hstep₁ _ fun acts => by rw [doInvoke_state]; exact hsteps.trans h⟩
  · exact Or.inr ⟨q, vm₁, B, X₁.warmed, X', hpost, hstep₁ _ fun acts => by rw [doInvoke_state]; exact hsteps⟩
theorem vx_callVW (X : Stand p l e R s m args below meth c T locs cells slots) (hexec : p.tables.exec = Jvm.exec) {own C : String} {index : Nat} {y : MethodName} {bytes : ByteArray} {maxL : Nat} {ret : Option FieldType} {hh : List (Nat × Nat × Nat × Nat)}
    (hown : s.vm.findClass own = some m.cls) (hlink : (Cond.methodLink own index y).before args s = true) (hinst : (Cond.instanceMethod y).before args s = true) (hsel : (Cond.selects C y y).before args s = true)
    (hcode : (Cond.codeWith y bytes maxL ret hh).before args s = true) (hy : y.cls ≠ "java/lang/invoke/MethodHandle" ∧ y.cls ≠ "java/lang/invoke/VarHandle")
    {W9 : Nat} {Pre : Pt → Array Value → Prop} {Post : Pt → Array Value → Option Value → Pt → Prop} (hK : Back l R p e below s args y 3 W9 Pre Post)
    {b : Addr} {cellB : Cell} (hcell : T.heap[b]? = some cellB) (hobj : cellB.vm.isStatics = false) (hcls : s.vm.findClass C = some cellB.cls)
    {g : JFrame} (hg : g.method = m) (hsize : g.locals.size = c.maxLocals) {argsL rest : List Value} (hlen : ∀ sig, parseMethodDescriptor y.desc = some sig → argsL.length = sig.parameters.length)
    (hstack : g.stack = argsL.reverse ++ .ref b :: rest) (hW : 2 * g.monitorRoom + (rest.map fun v => v.category).sum ≤ W9) (hdg : decode c.code g.pc = .ok (.invokevirtual index, 3))
    (hpre : ∀ vm₁, s.WarmedH vm₁ → Pre ⟨T.setVm vm₁, locs, cells, slots⟩ (Value.ref b :: argsL).toArray) :
    ∃ (v : Option Value) (vm₁ : Vm) (B : Pt), s.WarmedH vm₁ ∧ Stand p l e R s m args below meth c B.U B.locs B.cells B.slots ∧ Post ⟨T.setVm vm₁, locs, cells, slots⟩ (Value.ref b :: argsL).toArray v B ∧
      ∀ target, Steps p.tables e below (B.U.setTop { g with pc := g.pc + 3, stack := v.toList ++ rest }) target → Steps p.tables e below (T.setTop g) target := by
  obtain ⟨mk, methM, hnamed, hmethM, hstM, habM⟩ := Cond.instanceMethod_spec hinst
  obtain ⟨m8, methM', cM, hn8, hmethM', -, -, -, -, -, -, hsigM⟩ := Cond.codeWith_spec hcode
  cases Option.some.inj (hn8.symm.trans hnamed)
  cases hmethM.symm.trans hmethM'
  obtain ⟨c2, r2, m2, q1, q2, q3, q4, kP, hkP, hkPi⟩ := Cond.selects_spec hsel
  cases hcls.symm.trans q1
  cases (State.methodFound?_of_named hnamed hy).symm.trans q2
  cases hnamed.symm.trans q3
  have hselP : selectMethod e.platform s.vm cellB.cls mk = .method mk := by rw [Launch.admits_selectMethod X.admits]; exact q4
  obtain ⟨vm₁, X₁, hstep₁⟩ := X.invokevirtual hexec hown hlink hnamed hmethM hstM hkP hkPi hy (a := b) (cell := cellB) hcell
    (fun z h => by rw [h] at hobj; cases hobj) hselP hmethM habM hkP hkPi (g := g) hg (argsL := argsL) (rest := rest) (hlen _ hsigM) hstack hdg
  obtain ⟨v, B, X', hpost, hsteps⟩ := hK m meth c ⟨T.setVm vm₁, locs, cells, slots⟩ { g with stack := rest } (.invokevirtual index) mk (Value.ref b :: argsL).toArray X₁ hg hsize hdg hW (X₁.named hnamed) (hpre vm₁ X₁.warmed)
  exact ⟨v, vm₁, B, X₁.warmed, X', hpost, fun target h => hstep₁ _ fun acts => by rw [doInvoke_state]; exact hsteps.trans h⟩
abbrev vx_CVW (R : Room) (s : State) (args : Array Value) (own C : String) (index : Nat) (y : MethodName) (bytes : ByteArray) (maxL : Nat) (ret : Option FieldType) (hh : List (Nat × Nat × Nat × Nat)) (ws : List Cond) (rm : Room) (mc ms n : Nat) : Prop :=
  (rm.cells = mc ∧ rm.slots = ms ∧ rm.frames + 1 ≤ R.frames ∧ 8 + (maxL + 11) + rm.locals ≤ R.locals ∧ (∀ w ∈ ws, ∀ (a' : Array Value) (U : State), s.WarmedH U.vm → w.before a' U = true) ∧ Cond.codeWith y bytes maxL ret hh ∈ ws) ∧
  (Cond.codeWith y bytes maxL ret hh).before args s = true ∧ (Cond.initialized y.cls).before args s = true ∧ (y.cls ≠ "java/lang/invoke/MethodHandle" ∧ y.cls ≠ "java/lang/invoke/VarHandle") ∧
  (∀ sig, parseMethodDescriptor y.desc = some sig → n = sig.parameters.length) ∧ (Cond.methodLink own index y).before args s = true ∧ (Cond.instanceMethod y).before args s = true ∧ (Cond.selects C y y).before args s = true
theorem vx_cwVW {own C : String} {index maxL mc ms : Nat} {y : MethodName} {bytes : ByteArray} {ret : Option FieldType} {hh : List (Nat × Nat × Nat × Nat)} {Ts ws ws' : List Cond} {rm : Room} (n : Nat) (ht : ∀ w ∈ Ts, w.before args s = true) (hT : GoodIn Ts (wsV own index C y ws)) (hw : ws = Cond.codeWith y bytes maxL ret hh :: ws') (hrc : rm.cells = mc) (hrs : rm.slots = ms)
    (hd : y.cls = C ∧ y.cls ≠ "java/lang/invoke/MethodHandle" ∧ y.cls ≠ "java/lang/invoke/VarHandle" ∧ (parseMethodDescriptor y.desc).map (fun d => d.parameters.length) = some n) (hR : rm.frames + 1 ≤ R.frames ∧ 8 + (maxL + 11) + rm.locals ≤ R.locals) :
    vx_CVW R s args own C index y bytes maxL ret hh ws rm mc ms n := by
  obtain ⟨hC, hd⟩ := hd
  subst hC
  have ok : ∀ w ∈ wsV own index y.cls y ws, w.before args s = true := fun w h => ht w (hT w h).1
  have hG : GoodIn Ts ws := fun w h => hT w (by unfold wsV; exact List.mem_append_right _ h)
  have hc : Cond.codeWith y bytes maxL ret hh ∈ ws := by rw [hw]; exact List.mem_cons_self
  refine ⟨⟨hrc, hrs, hR.1, hR.2, pay_in ht hG, hc⟩, ht _ (hG _ hc).1, ok _ (by simp [wsV]), ⟨hd.1, hd.2.1⟩, fun sig h => ?_, ok _ (by simp [wsV]), ok _ (by simp [wsV]), ok _ (by simp [wsV])⟩
  have h2 := hd.2.2
  rw [h] at h2
  exact (Option.some.inj h2).symm
theorem vx_runVW {y : MethodName} {bytes cc : ByteArray} {maxL nL mc ms n index : Nat} {ret : Option FieldType} {hh : List (Nat × Nat × Nat × Nat)} {ws : List Cond} {rm : Room} {Pc : Array Value → State → Prop} {Qc : Array Value → State → Outcome → State → Prop} {free : Addr → Prop} {Ts : List Cond} {own C : String} {b : Addr} {As rest : List Value} {g : JFrame}
    (S : CallFix p m c cc nL s args Ts own) (hM : Met l y ws rm Pc Qc mc ms free) (cw : vx_CVW R s args own C index y bytes maxL ret hh ws rm mc ms n) (hp : PreV s H C b Pc As)
    (hg : g.method = m) (hn : As.length = n) (hsize : g.locals.size = nL) (hstack : g.stack = As.reverse ++ .ref b :: rest) (hW : 2 * g.monitorRoom + (rest.map fun v => v.category).sum ≤ 8) (hdg : decode cc g.pc = .ok (.invokevirtual index, 3)) (hf : cells + mc ≤ R.cells ∧ slots + ms ≤ R.slots) :
    va_Run p l e R s m args below meth c H locs cells slots mc ms g rest (Qc (Value.ref b :: As).toArray) free := by
  obtain ⟨⟨hrc, hrs, hfr, hlo, hws, hcw⟩, hcode, hini, hy, hlen, hl, hin, hse⟩ := cw
  have hK : Back l R p e below s args y 3 8 (PreOf R mc ms Pc) (PostOf Qc mc ms free) := va_backW (hh := hh) (bytes := bytes) (maxL := maxL) (ret := ret) hM hp.1 hrc hrs hfr hlo hws hcw (fun a' U hW => word_at hW (Or.inl (by first | rfl | simp [Cond.onTables, Cond.keeps, Cond.steady])) hini)
  obtain ⟨hx, hb, hml, ho, -⟩ := S
  obtain ⟨-, ⟨cellB, hcB, hoB, hclB⟩, hPc⟩ := hp
  intro T hT X
  obtain ⟨v, vm₁, ⟨U', l2, c2, s2⟩, hW₁, X', ⟨g', mk, t, L, e1, e2, hq, h1, hL, h2, h3⟩, st⟩ := vx_callVW X hx (C := C) (hh := hh) (bytes := bytes) (maxL := maxL) (ret := ret) ho hl hin hse hcode hy hK (by rw [hT]; exact hcB) hoB hclB hg (hsize.trans hml.symm) (argsL := As) (rest := rest) (fun sig h => hn.trans (hlen sig h)) hstack hW (by rw [hb]; exact hdg)
    (fun vm₁ hW₁ => ⟨hf.1, hf.2, hPc (T.setVm vm₁) hT hW₁⟩)
  dsimp only [Pt.U, Pt.locs, Pt.cells, Pt.slots] at X' e1 e2 h1 h2 h3 st
  subst h1; subst h2; subst h3
  exact ⟨v, (T.setVm vm₁).calling g' mk (Value.ref b :: As).toArray, t, U', L, hT, X', hL, e1, e2, hq, st⟩
section
variable {y : MethodName} {bytes cc : ByteArray} {maxL nL mc ms n index : Nat} {ret : Option FieldType} {ws : List Cond} {rm : Room} {Pc : Array Value → State → Prop} {Qc : Array Value → State → Outcome → State → Prop} {XC : String → State → State → Prop} {free : Addr → Prop} {Ts : List Cond} {own C : String} {b : Addr} {As rest : List Value} {g : JFrame}
theorem vx_runVX {hh : List (Nat × Nat × Nat × Nat)} (S : CallFix p m c cc nL s args Ts own) (hM : vx_Met l y ws rm Pc Qc XC mc ms free) (cw : vx_CVW R s args own C index y bytes maxL ret hh ws rm mc ms n) (hp : PreV s H C b Pc As)
    (hg : g.method = m) (hn : As.length = n) (hsize : g.locals.size = nL) (hstack : g.stack = As.reverse ++ .ref b :: rest) (hW : 2 * g.monitorRoom + (rest.map fun v => v.category).sum ≤ 8) (hdg : decode cc g.pc = .ok (.invokevirtual index, 3)) (hf : cells + mc ≤ R.cells ∧ slots + ms ≤ R.slots) :
    vx_Run p l e R s m args below meth c H locs cells slots mc ms g rest (Qc (Value.ref b :: As).toArray) XC free := by
  obtain ⟨⟨hrc, hrs, hfr, hlo, hws, hcw⟩, hcode, hini, hy, hlen, hl, hin, hse⟩ := cw
  have hK : vx_Back l R p e below s args y 3 8 (PreOf R mc ms Pc) (PostOf Qc mc ms free) (vx_Post XC mc ms free) := vx_backW (hh := hh) (bytes := bytes) (maxL := maxL) (ret := ret) hM hp.1 hrc hrs hfr hlo hws hcw (fun a' U hW => word_at hW (Or.inl (by first | rfl | simp [Cond.onTables, Cond.keeps, Cond.steady])) hini)
  obtain ⟨hx, hb, hml, ho, -⟩ := S
  obtain ⟨-, ⟨cellB, hcB, hoB, hclB⟩, hPc⟩ := hp
  intro T hT X
  rcases vx_callVX X hx (C := C) (hh := hh) (bytes := bytes) (maxL := maxL) (ret := ret) ho hl hin hse hcode hy hK (by rw [hT]; exact hcB) hoB hclB hg (hsize.trans hml.symm) (argsL := As) (rest := rest) (fun sig h => hn.trans (hlen sig h)) hstack hW (by rw [hb]; exact hdg)
    (fun vm₁ hW₁ => ⟨hf.1, hf.2, hPc (T.setVm vm₁) hT hW₁⟩) with ⟨v, vm₁, ⟨U', l2, c2, s2⟩, hW₁, X', ⟨g', mk, t, L, e1, e2, hq, h1, hL, h2, h3⟩, st⟩ | ⟨q, vm₁, ⟨U', l2, c2, s2⟩, hW₁, X', ⟨g', mk, t, L, E, ce, e1, e2, hq, hce, hcv, hcl, h1, hL, h2, h3⟩, st⟩
  · dsimp only [Pt.U, Pt.locs, Pt.cells, Pt.slots] at X' e1 e2 h1 h2 h3 st
    subst h1; subst h2; subst h3
    exact Or.inl ⟨v, (T.setVm vm₁).calling g' mk (Value.ref b :: As).toArray, t, U', L, hT, X', hL, e1, e2, hq, st⟩
  · dsimp only [Pt.U, Pt.locs, Pt.cells, Pt.slots] at X' e1 e2 h1 h2 h3 st hcl
    subst h1; subst h2; subst h3
    exact Or.inr ⟨q, (T.setVm vm₁).calling g' mk (Value.ref b :: As).toArray, t, U', L, E, ce, hT, X', hL, e1, e2, hq, hce, hcv, vx_cls hW₁ hcl, st⟩
theorem vx_runSX {hh : List (Nat × Nat × Nat × Nat)} (S : CallFix p m c cc nL s args Ts own) (hM : vx_Met l y ws rm Pc Qc XC mc ms free) (cw : vx_CSW R s args own index y bytes maxL ret hh ws rm mc ms n) (hp : PreS s H Pc As)
    (hg : g.method = m) (hn : As.length = n) (hsize : g.locals.size = nL) (hstack : g.stack = As.reverse ++ rest) (hW : 2 * g.monitorRoom + (rest.map fun v => v.category).sum ≤ 8) (hdg : decode cc g.pc = .ok (.invokestatic index, 3)) (hf : cells + mc ≤ R.cells ∧ slots + ms ≤ R.slots) :
    vx_Run p l e R s m args below meth c H locs cells slots mc ms g rest (Qc As.toArray) XC free := by
  obtain ⟨⟨hrc, hrs, hfr, hlo, hws, hcw⟩, hcode, hini, hy, hlen, hl, hstt⟩ := cw
  have hK : vx_Back l R p e below s args y 3 8 (PreOf R mc ms Pc) (PostOf Qc mc ms free) (vx_Post XC mc ms free) := vx_backW (hh := hh) (bytes := bytes) (maxL := maxL) (ret := ret) hM hp.1 hrc hrs hfr hlo hws hcw (fun a' U hW => word_at hW (Or.inl (by first | rfl | simp [Cond.onTables, Cond.keeps, Cond.steady])) hini)
  obtain ⟨hx, hb, hml, ho, -⟩ := S
  intro T hT X
  rcases vx_callSX X hx (hh := hh) (bytes := bytes) (maxL := maxL) (ret := ret) ho hl hstt hini hcode hy hK hg (hsize.trans hml.symm) (argsL := As) (rest := rest) (fun sig h => hn.trans (hlen sig h)) hstack hW (by rw [hb]; exact hdg)
    (fun vm₁ hW₁ => ⟨hf.1, hf.2, hp.2 (T.setVm vm₁) hT hW₁⟩) with ⟨v, vm₁, ⟨U', l2, c2, s2⟩, hW₁, X', ⟨g', mk, t, L, e1, e2, hq, h1, hL, h2, h3⟩, st⟩ | ⟨q, vm₁, ⟨U', l2, c2, s2⟩, hW₁, X', ⟨g', mk, t, L, E, ce, e1, e2, hq, hce, hcv, hcl, h1, hL, h2, h3⟩, st⟩
  · dsimp only [Pt.U, Pt.locs, Pt.cells, Pt.slots] at X' e1 e2 h1 h2 h3 st
    subst h1; subst h2; subst h3
    exact Or.inl ⟨v, (T.setVm vm₁).calling g' mk As.toArray, t, U', L, hT, X', hL, e1, e2, hq, st⟩
  · dsimp only [Pt.U, Pt.locs, Pt.cells, Pt.slots] at X' e1 e2 h1 h2 h3 st hcl
    subst h1; subst h2; subst h3
    exact Or.inr ⟨q, (T.setVm vm₁).calling g' mk As.toArray, t, U', L, E, ce, hT, X', hL, e1, e2, hq, hce, hcv, vx_cls hW₁ hcl, st⟩
end
end VXH
theorem vx_ofWH {l : Launch} {y : MethodName} {ws ws' : List Cond} {rm : Room} {Pc : Array Value → State → Prop} {Qc : Array Value → State → Outcome → State → Prop} {XC : String → State → State → Prop} {mc ms : Nat} {free : Addr → Prop} {cc : ByteArray} {maxL : Nat} {ret : Option FieldType} {hh : List (Nat × Nat × Nat × Nat)}
    (hy : plainName y.cls = true) (hw : ws = Cond.codeWith y cc maxL ret hh :: ws')
    (body : ∀ p e s m args below meth c s₁, BodyLoose p l y (headSpec ws rm) cc maxL ret e s m args below meth c s₁ → c.maxLocals = maxL → Pc args s →
      W p l e (headSpec ws rm).room s m args below meth c s.heap [] 0 0 (vx_MQ below Qc XC args s mc ms free) (entryFrame m args maxL)) : vx_Met l y ws rm Pc Qc XC mc ms free := by
  refine MetFree.of_bodyS (code := cc) (maxLocals := maxL) (ret := ret) hy ?_ ?_
  · intro args s m h hn
    obtain ⟨m9, meth, c, hn9, h1, h2, h3, h4, -, h5, h6, -⟩ := Cond.codeWith_spec (atoms_spec (ws := ws) h _ (by rw [hw]; exact List.mem_cons_self))
    cases hn.symm.trans hn9
    exact ⟨meth, c, h1, h2, h3, h4, h5, h6⟩
  · intro p e s m args below meth c s₁ B hml hP _
    have hh0 : s₁.heap = s.heap := by rw [B.state]; rfl
    obtain ⟨t, a1, o, b1, b2, b3⟩ := body p e s m args below meth c s₁ B hml hP s₁ hh0 (Stand.of_body B)
    exact ⟨t, o, a1, b1, b2, b3⟩
/-! ===== END ===== -/
end
section
/-! ===== BEGIN printed: names, fields, word lists, decode rows ===== -/
def RX0 : String := "KerbHours$Car"
def TX0 : u_T := fun k => match k with
  | 0 => ("KerbHours$Car", "number", "I", true)
  | 1 => ("KerbHours$Car", "length", "I", true)
  | 2 => ("KerbHours$Car", "user", "I", true)
  | _ => ("KerbHours$Car", "stand", "LKerbHours$Stand;", false)
def tyX0 : Nat → FieldType := fun k => match k with
  | 0 => .int
  | 1 => .int
  | 2 => .int
  | _ => .object "KerbHours$Stand"
abbrev wsX00 : List Cond := u_ws RX0 TX0 4
theorem nmX0 : ∀ a, a < 4 → ∀ b, b < 4 → a ≠ b → (TX0 a).2.1 ≠ (TX0 b).2.1 := by decide +kernel
theorem tyX0_ok : ∀ k, k < 4 → parseFieldDescriptor (TX0 k).2.2.1 = some (tyX0 k) := by decide +kernel
abbrev cX0_init : ByteArray := prog_2_method_1_code
def yX0_init : MethodName := ⟨RX0, "<init>", "(III)V"⟩
def RX1 : String := "KerbHours$Fine"
def TX1 : u_T := fun k => match k with
  | 0 => ("KerbHours$Fine", "stand", "LKerbHours$Stand;", true)
  | 1 => ("KerbHours$Fine", "quarter", "I", true)
  | 2 => ("KerbHours$Fine", "judgement", "I", true)
  | 3 => ("KerbHours$Fine", "isAppealed", "Z", false)
  | 4 => ("KerbHours$Fine", "isTakenBack", "Z", false)
  | _ => ("KerbHours$Fine", "isPaid", "Z", false)
def tyX1 : Nat → FieldType := fun k => match k with
  | 0 => .object "KerbHours$Stand"
  | 1 => .int
  | 2 => .int
  | 3 => .boolean
  | 4 => .boolean
  | _ => .boolean
abbrev wsX10 : List Cond := u_ws RX1 TX1 6
theorem nmX1 : ∀ a, a < 6 → ∀ b, b < 6 → a ≠ b → (TX1 a).2.1 ≠ (TX1 b).2.1 := by decide +kernel
theorem tyX1_ok : ∀ k, k < 6 → parseFieldDescriptor (TX1 k).2.2.1 = some (tyX1 k) := by decide +kernel
abbrev cX1_init : ByteArray := prog_3_method_1_code
def yX1_init : MethodName := ⟨RX1, "<init>", "(LKerbHours$Stand;II)V"⟩
abbrev cX1_isOpen : ByteArray := prog_3_method_2_code
def yX1_isOpen : MethodName := ⟨RX1, "isOpen", "()Z"⟩
abbrev cX1_amount : ByteArray := prog_3_method_3_code
def yX1_amount : MethodName := ⟨RX1, "amount", "()I"⟩
def RX2 : String := "KerbHours$Payment"
def TX2 : u_T := fun k => match k with
  | 0 => ("KerbHours$Payment", "car", "I", true)
  | 1 => ("KerbHours$Payment", "street", "I", true)
  | 2 => ("KerbHours$Payment", "from", "I", true)
  | _ => ("KerbHours$Payment", "quarters", "I", true)
def tyX2 : Nat → FieldType := fun k => match k with
  | 0 => .int
  | 1 => .int
  | 2 => .int
  | _ => .int
abbrev wsX20 : List Cond := u_ws RX2 TX2 4
theorem nmX2 : ∀ a, a < 4 → ∀ b, b < 4 → a ≠ b → (TX2 a).2.1 ≠ (TX2 b).2.1 := by decide +kernel
theorem tyX2_ok : ∀ k, k < 4 → parseFieldDescriptor (TX2 k).2.2.1 = some (tyX2 k) := by decide +kernel
abbrev cX2_init : ByteArray := prog_4_method_1_code
def yX2_init : MethodName := ⟨RX2, "<init>", "(IIII)V"⟩
abbrev cX2_covers : ByteArray := prog_4_method_2_code
def yX2_covers : MethodName := ⟨RX2, "covers", "(I)Z"⟩
def RX3 : String := "KerbHours$Permit"
def TX3 : u_T := fun k => match k with
  | 0 => ("KerbHours$Permit", "car", "I", false)
  | 1 => ("KerbHours$Permit", "street", "I", true)
  | 2 => ("KerbHours$Permit", "home", "I", true)
  | 3 => ("KerbHours$Permit", "from", "I", true)
  | _ => ("KerbHours$Permit", "to", "I", true)
def tyX3 : Nat → FieldType := fun k => match k with
  | 0 => .int
  | 1 => .int
  | 2 => .int
  | 3 => .int
  | _ => .int
abbrev wsX30 : List Cond := u_ws RX3 TX3 5
theorem nmX3 : ∀ a, a < 5 → ∀ b, b < 5 → a ≠ b → (TX3 a).2.1 ≠ (TX3 b).2.1 := by decide +kernel
theorem tyX3_ok : ∀ k, k < 5 → parseFieldDescriptor (TX3 k).2.2.1 = some (tyX3 k) := by decide +kernel
abbrev cX3_init : ByteArray := prog_5_method_1_code
def yX3_init : MethodName := ⟨RX3, "<init>", "(IIIII)V"⟩
abbrev cX3_holdsOn : ByteArray := prog_5_method_2_code
def yX3_holdsOn : MethodName := ⟨RX3, "holdsOn", "(I)Z"⟩
def RX4 : String := "KerbHours$Sign"
def TX4 : u_T := fun k => match k with
  | 0 => ("KerbHours$Sign", "number", "I", true)
  | 1 => ("KerbHours$Sign", "toldAt", "I", true)
  | 2 => ("KerbHours$Sign", "when", "LKerbHours$When;", true)
  | 3 => ("KerbHours$Sign", "downAt", "I", false)
  | 4 => ("KerbHours$Sign", "street", "I", false)
  | 5 => ("KerbHours$Sign", "from", "I", false)
  | 6 => ("KerbHours$Sign", "to", "I", false)
  | 7 => ("KerbHours$Sign", "users", "I", false)
  | 8 => ("KerbHours$Sign", "stay", "I", false)
  | 9 => ("KerbHours$Sign", "hasFee", "Z", false)
  | _ => ("KerbHours$Sign", "isTemporary", "Z", false)
def tyX4 : Nat → FieldType := fun k => match k with
  | 0 => .int
  | 1 => .int
  | 2 => .object "KerbHours$When"
  | 3 => .int
  | 4 => .int
  | 5 => .int
  | 6 => .int
  | 7 => .int
  | 8 => .int
  | 9 => .boolean
  | _ => .boolean
abbrev wsX40 : List Cond := u_ws RX4 TX4 11
theorem nmX4 : ∀ a, a < 11 → ∀ b, b < 11 → a ≠ b → (TX4 a).2.1 ≠ (TX4 b).2.1 := by decide +kernel
theorem tyX4_ok : ∀ k, k < 11 → parseFieldDescriptor (TX4 k).2.2.1 = some (tyX4 k) := by decide +kernel
abbrev cX4_init : ByteArray := prog_6_method_1_code
def yX4_init : MethodName := ⟨RX4, "<init>", "(IILKerbHours$When;)V"⟩
abbrev cX4_setPlace : ByteArray := prog_6_method_2_code
def yX4_setPlace : MethodName := ⟨RX4, "setPlace", "(III)V"⟩
abbrev cX4_setTerms : ByteArray := prog_6_method_3_code
def yX4_setTerms : MethodName := ⟨RX4, "setTerms", "(IIZZ)V"⟩
abbrev cX4_holdsAt : ByteArray := prog_6_method_4_code
def yX4_holdsAt : MethodName := ⟨RX4, "holdsAt", "(III)Z"⟩
abbrev cX4_isUp : ByteArray := prog_6_method_5_code
def yX4_isUp : MethodName := ⟨RX4, "isUp", "(I)Z"⟩
abbrev cX4_isNoticed : ByteArray := prog_6_method_6_code
def yX4_isNoticed : MethodName := ⟨RX4, "isNoticed", "(I)Z"⟩
abbrev cX4_goesAheadOf : ByteArray := prog_6_method_7_code
def yX4_goesAheadOf : MethodName := ⟨RX4, "goesAheadOf", "(LKerbHours$Sign;)Z"⟩
abbrev cX4_letsStand : ByteArray := prog_6_method_8_code
def yX4_letsStand : MethodName := ⟨RX4, "letsStand", "(I)Z"⟩
def RX5 : String := "KerbHours$Stand"
def TX5 : u_T := fun k => match k with
  | 0 => ("KerbHours$Stand", "car", "LKerbHours$Car;", true)
  | 1 => ("KerbHours$Stand", "street", "I", true)
  | 2 => ("KerbHours$Stand", "metre", "I", true)
  | 3 => ("KerbHours$Stand", "since", "I", true)
  | _ => ("KerbHours$Stand", "finedOn", "I", false)
def tyX5 : Nat → FieldType := fun k => match k with
  | 0 => .object "KerbHours$Car"
  | 1 => .int
  | 2 => .int
  | 3 => .int
  | _ => .int
abbrev wsX50 : List Cond := u_ws RX5 TX5 5
theorem nmX5 : ∀ a, a < 5 → ∀ b, b < 5 → a ≠ b → (TX5 a).2.1 ≠ (TX5 b).2.1 := by decide +kernel
theorem tyX5_ok : ∀ k, k < 5 → parseFieldDescriptor (TX5 k).2.2.1 = some (tyX5 k) := by decide +kernel
abbrev cX5_init : ByteArray := prog_7_method_1_code
def yX5_init : MethodName := ⟨RX5, "<init>", "(LKerbHours$Car;III)V"⟩
abbrev cX5_isTooNear : ByteArray := prog_7_method_2_code
def yX5_isTooNear : MethodName := ⟨RX5, "isTooNear", "(II)Z"⟩
def RX6 : String := "KerbHours$Street"
def TX6 : u_T := fun k => match k with
  | 0 => ("KerbHours$Street", "blocked", "[Z", true)
  | 1 => ("KerbHours$Street", "price", "I", false)
  | 2 => ("KerbHours$Street", "taken", "I", false)
  | 3 => ("KerbHours$Street", "takenToday", "I", false)
  | 4 => ("KerbHours$Street", "cost", "I", false)
  | _ => ("KerbHours$Street", "fines", "I", false)
def tyX6 : Nat → FieldType := fun k => match k with
  | 0 => .array .boolean
  | 1 => .int
  | 2 => .int
  | 3 => .int
  | 4 => .int
  | _ => .int
abbrev wsX60 : List Cond := u_ws RX6 TX6 6
theorem nmX6 : ∀ a, a < 6 → ∀ b, b < 6 → a ≠ b → (TX6 a).2.1 ≠ (TX6 b).2.1 := by decide +kernel
theorem tyX6_ok : ∀ k, k < 6 → parseFieldDescriptor (TX6 k).2.2.1 = some (tyX6 k) := by decide +kernel
abbrev cX6_init : ByteArray := prog_8_method_1_code
def yX6_init : MethodName := ⟨RX6, "<init>", "()V"⟩
abbrev cX6_isBlocked : ByteArray := prog_8_method_2_code
def yX6_isBlocked : MethodName := ⟨RX6, "isBlocked", "(I)Z"⟩
abbrev cX6_setBlocked : ByteArray := prog_8_method_3_code
def yX6_setBlocked : MethodName := ⟨RX6, "setBlocked", "(IZ)V"⟩
abbrev cX6_beginDay : ByteArray := prog_8_method_4_code
def yX6_beginDay : MethodName := ⟨RX6, "beginDay", "()V"⟩
def RX7 : String := "KerbHours$When"
def TX7 : u_T := fun k => match k with
  | 0 => ("KerbHours$When", "weekdays", "I", false)
  | 1 => ("KerbHours$When", "fromQuarter", "I", false)
  | 2 => ("KerbHours$When", "toQuarter", "I", false)
  | 3 => ("KerbHours$When", "fromDay", "I", false)
  | _ => ("KerbHours$When", "toDay", "I", false)
def tyX7 : Nat → FieldType := fun k => match k with
  | 0 => .int
  | 1 => .int
  | 2 => .int
  | 3 => .int
  | _ => .int
abbrev wsX70 : List Cond := u_ws RX7 TX7 5
theorem nmX7 : ∀ a, a < 5 → ∀ b, b < 5 → a ≠ b → (TX7 a).2.1 ≠ (TX7 b).2.1 := by decide +kernel
theorem tyX7_ok : ∀ k, k < 5 → parseFieldDescriptor (TX7 k).2.2.1 = some (tyX7 k) := by decide +kernel
abbrev cX7_init : ByteArray := prog_9_method_1_code
def yX7_init : MethodName := ⟨RX7, "<init>", "()V"⟩
abbrev cX7_has : ByteArray := prog_9_method_2_code
def yX7_has : MethodName := ⟨RX7, "has", "(I)Z"⟩
def RX8 : String := "KerbHours"
def TX8 : u_T := fun k => match k with
  | 0 => ("KerbHours", "streets", "Ljava/util/ArrayList;", true)
  | 1 => ("KerbHours", "signs", "Ljava/util/ArrayList;", true)
  | 2 => ("KerbHours", "cars", "Ljava/util/ArrayList;", true)
  | 3 => ("KerbHours", "permits", "Ljava/util/ArrayList;", true)
  | 4 => ("KerbHours", "payments", "Ljava/util/ArrayList;", true)
  | 5 => ("KerbHours", "fines", "Ljava/util/ArrayList;", true)
  | 6 => ("KerbHours", "nextWhen", "LKerbHours$When;", false)
  | _ => ("KerbHours", "now", "I", false)
def tyX8 : Nat → FieldType := fun k => match k with
  | 0 => .object "java/util/ArrayList"
  | 1 => .object "java/util/ArrayList"
  | 2 => .object "java/util/ArrayList"
  | 3 => .object "java/util/ArrayList"
  | 4 => .object "java/util/ArrayList"
  | 5 => .object "java/util/ArrayList"
  | 6 => .object "KerbHours$When"
  | _ => .int
abbrev wsX80 : List Cond := u_ws RX8 TX8 8
theorem nmX8 : ∀ a, a < 8 → ∀ b, b < 8 → a ≠ b → (TX8 a).2.1 ≠ (TX8 b).2.1 := by decide +kernel
theorem tyX8_ok : ∀ k, k < 8 → parseFieldDescriptor (TX8 k).2.2.1 = some (tyX8 k) := by decide +kernel
abbrev cX8_init : ByteArray := prog_1_method_1_code
def yX8_init : MethodName := ⟨RX8, "<init>", "()V"⟩
abbrev cX8_block : ByteArray := prog_1_method_2_code
def yX8_block : MethodName := ⟨RX8, "block", "(IIZ)Z"⟩
abbrev cX8_times : ByteArray := prog_1_method_3_code
def yX8_times : MethodName := ⟨RX8, "times", "(III)V"⟩
abbrev cX8_dates : ByteArray := prog_1_method_4_code
def yX8_dates : MethodName := ⟨RX8, "dates", "(II)V"⟩
abbrev cX8_sign : ByteArray := prog_1_method_5_code
def yX8_sign : MethodName := ⟨RX8, "sign", "(IIIIIZZ)I"⟩
abbrev cX8_takeDown : ByteArray := prog_1_method_6_code
def yX8_takeDown : MethodName := ⟨RX8, "takeDown", "(I)V"⟩
abbrev cX8_rule : ByteArray := prog_1_method_7_code
def yX8_rule : MethodName := ⟨RX8, "rule", "(III)I"⟩
abbrev cX8_ruleAnew : ByteArray := prog_1_method_8_code
def yX8_ruleAnew : MethodName := ⟨RX8, "ruleAnew", "(III)I"⟩
abbrev cX8_car : ByteArray := prog_1_method_9_code
def yX8_car : MethodName := ⟨RX8, "car", "(II)I"⟩
abbrev cX8_permit : ByteArray := prog_1_method_10_code
def yX8_permit : MethodName := ⟨RX8, "permit", "(IIIII)I"⟩
abbrev cX8_hand : ByteArray := prog_1_method_11_code
def yX8_hand : MethodName := ⟨RX8, "hand", "(II)I"⟩
abbrev cX8_countsAs : ByteArray := prog_1_method_12_code
def yX8_countsAs : MethodName := ⟨RX8, "countsAs", "(II)I"⟩
abbrev cX8_park : ByteArray := prog_1_method_13_code
def yX8_park : MethodName := ⟨RX8, "park", "(III)V"⟩
abbrev cX8_leave : ByteArray := prog_1_method_14_code
def yX8_leave : MethodName := ⟨RX8, "leave", "(I)I"⟩
abbrev cX8_gap : ByteArray := prog_1_method_15_code
def yX8_gap : MethodName := ⟨RX8, "gap", "(II)I"⟩
abbrev cX8_pay : ByteArray := prog_1_method_16_code
def yX8_pay : MethodName := ⟨RX8, "pay", "(IIII)I"⟩
abbrev cX8_judge : ByteArray := prog_1_method_17_code
def yX8_judge : MethodName := ⟨RX8, "judge", "(I)I"⟩
abbrev cX8_look : ByteArray := prog_1_method_18_code
def yX8_look : MethodName := ⟨RX8, "look", "(I)I"⟩
abbrev cX8_appeal : ByteArray := prog_1_method_19_code
def yX8_appeal : MethodName := ⟨RX8, "appeal", "(I)Z"⟩
abbrev cX8_payFine : ByteArray := prog_1_method_20_code
def yX8_payFine : MethodName := ⟨RX8, "payFine", "(I)I"⟩
abbrev cX8_fine : ByteArray := prog_1_method_21_code
def yX8_fine : MethodName := ⟨RX8, "fine", "(II)I"⟩
abbrev cX8_debt : ByteArray := prog_1_method_22_code
def yX8_debt : MethodName := ⟨RX8, "debt", "(I)I"⟩
abbrev cX8_tow : ByteArray := prog_1_method_23_code
def yX8_tow : MethodName := ⟨RX8, "tow", "(I)I"⟩
abbrev cX8_streetIs : ByteArray := prog_1_method_24_code
def yX8_streetIs : MethodName := ⟨RX8, "streetIs", "(II)I"⟩
abbrev cX8_pass : ByteArray := prog_1_method_25_code
def yX8_pass : MethodName := ⟨RX8, "pass", "(I)I"⟩
abbrev cX8_isIn : ByteArray := prog_1_method_26_code
def yX8_isIn : MethodName := ⟨RX8, "isIn", "(III)Z"⟩
abbrev cX8_isIndex : ByteArray := prog_1_method_27_code
def yX8_isIndex : MethodName := ⟨RX8, "isIndex", "(II)Z"⟩
abbrev cX8_need : ByteArray := prog_1_method_28_code
def yX8_need : MethodName := ⟨RX8, "need", "(Z)V"⟩
abbrev cX8_needState : ByteArray := prog_1_method_29_code
def yX8_needState : MethodName := ⟨RX8, "needState", "(Z)V"⟩
abbrev cX8_needMetre : ByteArray := prog_1_method_30_code
def yX8_needMetre : MethodName := ⟨RX8, "needMetre", "(I)V"⟩
abbrev cX8_streetOf : ByteArray := prog_1_method_31_code
def yX8_streetOf : MethodName := ⟨RX8, "streetOf", "(I)LKerbHours$Street;"⟩
abbrev cX8_carOf : ByteArray := prog_1_method_32_code
def yX8_carOf : MethodName := ⟨RX8, "carOf", "(I)LKerbHours$Car;"⟩
abbrev cX8_fineOf : ByteArray := prog_1_method_33_code
def yX8_fineOf : MethodName := ⟨RX8, "fineOf", "(I)LKerbHours$Fine;"⟩
abbrev cX8_signThatCounts : ByteArray := prog_1_method_34_code
def yX8_signThatCounts : MethodName := ⟨RX8, "signThatCounts", "(III)LKerbHours$Sign;"⟩
abbrev cX8_isLeftOut : ByteArray := prog_1_method_35_code
def yX8_isLeftOut : MethodName := ⟨RX8, "isLeftOut", "(LKerbHours$Sign;II)Z"⟩
abbrev cX8_isHomeFull : ByteArray := prog_1_method_36_code
def yX8_isHomeFull : MethodName := ⟨RX8, "isHomeFull", "(III)Z"⟩
abbrev cX8_permitsOf : ByteArray := prog_1_method_37_code
def yX8_permitsOf : MethodName := ⟨RX8, "permitsOf", "(II)I"⟩
abbrev cX8_userOf : ByteArray := prog_1_method_38_code
def yX8_userOf : MethodName := ⟨RX8, "userOf", "(LKerbHours$Car;II)I"⟩
abbrev cX8_hasPermit : ByteArray := prog_1_method_39_code
def yX8_hasPermit : MethodName := ⟨RX8, "hasPermit", "(LKerbHours$Car;II)Z"⟩
abbrev cX8_isGap : ByteArray := prog_1_method_40_code
def yX8_isGap : MethodName := ⟨RX8, "isGap", "(III)Z"⟩
abbrev cX8_endStand : ByteArray := prog_1_method_41_code
def yX8_endStand : MethodName := ⟨RX8, "endStand", "(LKerbHours$Stand;)V"⟩
abbrev cX8_isOnBlocked : ByteArray := prog_1_method_42_code
def yX8_isOnBlocked : MethodName := ⟨RX8, "isOnBlocked", "(LKerbHours$Stand;)Z"⟩
abbrev cX8_judgementOf : ByteArray := prog_1_method_43_code
def yX8_judgementOf : MethodName := ⟨RX8, "judgementOf", "(LKerbHours$Stand;IZ)I"⟩
abbrev cX8_isForbidden : ByteArray := prog_1_method_44_code
def yX8_isForbidden : MethodName := ⟨RX8, "isForbidden", "(LKerbHours$Stand;I)Z"⟩
abbrev cX8_isPaidFor : ByteArray := prog_1_method_45_code
def yX8_isPaidFor : MethodName := ⟨RX8, "isPaidFor", "(LKerbHours$Stand;I)Z"⟩
abbrev cX8_lookAt : ByteArray := prog_1_method_46_code
def yX8_lookAt : MethodName := ⟨RX8, "lookAt", "(LKerbHours$Stand;LKerbHours$Street;)V"⟩
abbrev cX8_debtOf : ByteArray := prog_1_method_47_code
def yX8_debtOf : MethodName := ⟨RX8, "debtOf", "(LKerbHours$Car;)I"⟩
abbrev cX8_passQuarter : ByteArray := prog_1_method_48_code
def yX8_passQuarter : MethodName := ⟨RX8, "passQuarter", "()V"⟩
def RX9 : String := "KerbHoursModel"
def TX9 : u_T := fun k => match k with
  | 0 => ("KerbHoursModel", "now", "I", false)
  | 1 => ("KerbHoursModel", "isBlocked", "[Z", true)
  | 2 => ("KerbHoursModel", "weekdays", "I", false)
  | 3 => ("KerbHoursModel", "timeFrom", "I", false)
  | 4 => ("KerbHoursModel", "timeTo", "I", false)
  | 5 => ("KerbHoursModel", "dateFrom", "I", false)
  | 6 => ("KerbHoursModel", "dateTo", "I", false)
  | 7 => ("KerbHoursModel", "signs", "I", false)
  | 8 => ("KerbHoursModel", "signStreet", "[I", true)
  | 9 => ("KerbHoursModel", "signFrom", "[I", true)
  | 10 => ("KerbHoursModel", "signTo", "[I", true)
  | 11 => ("KerbHoursModel", "signUsers", "[I", true)
  | 12 => ("KerbHoursModel", "signStay", "[I", true)
  | 13 => ("KerbHoursModel", "hasFee", "[Z", true)
  | 14 => ("KerbHoursModel", "isTemporary", "[Z", true)
  | 15 => ("KerbHoursModel", "signWeekdays", "[I", true)
  | 16 => ("KerbHoursModel", "signTimeFrom", "[I", true)
  | 17 => ("KerbHoursModel", "signTimeTo", "[I", true)
  | 18 => ("KerbHoursModel", "signDateFrom", "[I", true)
  | 19 => ("KerbHoursModel", "signDateTo", "[I", true)
  | 20 => ("KerbHoursModel", "signTold", "[I", true)
  | 21 => ("KerbHoursModel", "signDown", "[I", true)
  | 22 => ("KerbHoursModel", "cars", "I", false)
  | 23 => ("KerbHoursModel", "length", "[I", true)
  | 24 => ("KerbHoursModel", "user", "[I", true)
  | 25 => ("KerbHoursModel", "standsIn", "[I", true)
  | 26 => ("KerbHoursModel", "standsAt", "[I", true)
  | 27 => ("KerbHoursModel", "since", "[I", true)
  | 28 => ("KerbHoursModel", "parkings", "[I", true)
  | 29 => ("KerbHoursModel", "permits", "I", false)
  | 30 => ("KerbHoursModel", "permitCar", "[I", true)
  | 31 => ("KerbHoursModel", "permitStreet", "[I", true)
  | 32 => ("KerbHoursModel", "permitHome", "[I", true)
  | 33 => ("KerbHoursModel", "permitFrom", "[I", true)
  | 34 => ("KerbHoursModel", "permitTo", "[I", true)
  | 35 => ("KerbHoursModel", "payments", "I", false)
  | 36 => ("KerbHoursModel", "payCar", "[I", true)
  | 37 => ("KerbHoursModel", "payStreet", "[I", true)
  | 38 => ("KerbHoursModel", "payFrom", "[I", true)
  | 39 => ("KerbHoursModel", "payFor", "[I", true)
  | 40 => ("KerbHoursModel", "fines", "I", false)
  | 41 => ("KerbHoursModel", "fineCar", "[I", true)
  | 42 => ("KerbHoursModel", "fineStreet", "[I", true)
  | 43 => ("KerbHoursModel", "fineMetre", "[I", true)
  | 44 => ("KerbHoursModel", "fineSince", "[I", true)
  | 45 => ("KerbHoursModel", "fineParking", "[I", true)
  | 46 => ("KerbHoursModel", "fineAt", "[I", true)
  | 47 => ("KerbHoursModel", "fineFor", "[I", true)
  | 48 => ("KerbHoursModel", "wasBlocked", "[Z", true)
  | 49 => ("KerbHoursModel", "hasAppeal", "[Z", true)
  | 50 => ("KerbHoursModel", "isBack", "[Z", true)
  | 51 => ("KerbHoursModel", "isPaid", "[Z", true)
  | 52 => ("KerbHoursModel", "price", "[I", true)
  | 53 => ("KerbHoursModel", "earned", "[I", true)
  | 54 => ("KerbHoursModel", "given", "[I", true)
  | 55 => ("KerbHoursModel", "takenToday", "[I", true)
  | _ => ("KerbHoursModel", "thrown", "I", false)
def tyX9 : Nat → FieldType := fun k => match k with
  | 0 => .int
  | 1 => .array .boolean
  | 2 => .int
  | 3 => .int
  | 4 => .int
  | 5 => .int
  | 6 => .int
  | 7 => .int
  | 8 => .array .int
  | 9 => .array .int
  | 10 => .array .int
  | 11 => .array .int
  | 12 => .array .int
  | 13 => .array .boolean
  | 14 => .array .boolean
  | 15 => .array .int
  | 16 => .array .int
  | 17 => .array .int
  | 18 => .array .int
  | 19 => .array .int
  | 20 => .array .int
  | 21 => .array .int
  | 22 => .int
  | 23 => .array .int
  | 24 => .array .int
  | 25 => .array .int
  | 26 => .array .int
  | 27 => .array .int
  | 28 => .array .int
  | 29 => .int
  | 30 => .array .int
  | 31 => .array .int
  | 32 => .array .int
  | 33 => .array .int
  | 34 => .array .int
  | 35 => .int
  | 36 => .array .int
  | 37 => .array .int
  | 38 => .array .int
  | 39 => .array .int
  | 40 => .int
  | 41 => .array .int
  | 42 => .array .int
  | 43 => .array .int
  | 44 => .array .int
  | 45 => .array .int
  | 46 => .array .int
  | 47 => .array .int
  | 48 => .array .boolean
  | 49 => .array .boolean
  | 50 => .array .boolean
  | 51 => .array .boolean
  | 52 => .array .int
  | 53 => .array .int
  | 54 => .array .int
  | 55 => .array .int
  | _ => .int
abbrev wsX90 : List Cond := u_ws RX9 TX9 57
theorem nmX9 : ∀ a, a < 57 → ∀ b, b < 57 → a ≠ b → (TX9 a).2.1 ≠ (TX9 b).2.1 := by decide +kernel
theorem tyX9_ok : ∀ k, k < 57 → parseFieldDescriptor (TX9 k).2.2.1 = some (tyX9 k) := by decide +kernel
abbrev cX9_init : ByteArray := prog_11_method_1_code
def yX9_init : MethodName := ⟨RX9, "<init>", "()V"⟩
abbrev cX9_thrown : ByteArray := prog_11_method_2_code
def yX9_thrown : MethodName := ⟨RX9, "thrown", "()I"⟩
abbrev cX9_in : ByteArray := prog_11_method_3_code
def yX9_in : MethodName := ⟨RX9, "in", "(III)Z"⟩
abbrev cX9_goes : ByteArray := prog_11_method_4_code
def yX9_goes : MethodName := ⟨RX9, "goes", "(ZZZ)Z"⟩
abbrev cX9_isStreet : ByteArray := prog_11_method_5_code
def yX9_isStreet : MethodName := ⟨RX9, "isStreet", "(I)Z"⟩
abbrev cX9_isMetre : ByteArray := prog_11_method_6_code
def yX9_isMetre : MethodName := ⟨RX9, "isMetre", "(I)Z"⟩
abbrev cX9_isCar : ByteArray := prog_11_method_7_code
def yX9_isCar : MethodName := ⟨RX9, "isCar", "(I)Z"⟩
abbrev cX9_has : ByteArray := prog_11_method_8_code
def yX9_has : MethodName := ⟨RX9, "has", "(II)Z"⟩
abbrev cX9_block : ByteArray := prog_11_method_9_code
def yX9_block : MethodName := ⟨RX9, "block", "(IIZ)Z"⟩
abbrev cX9_resets : ByteArray := prog_11_method_10_code
def yX9_resets : MethodName := ⟨RX9, "resets", "()V"⟩
abbrev cX9_times : ByteArray := prog_11_method_11_code
def yX9_times : MethodName := ⟨RX9, "times", "(III)V"⟩
abbrev cX9_dates : ByteArray := prog_11_method_12_code
def yX9_dates : MethodName := ⟨RX9, "dates", "(II)V"⟩
abbrev cX9_sign : ByteArray := prog_11_method_13_code
def yX9_sign : MethodName := ⟨RX9, "sign", "(IIIIIZZ)I"⟩
abbrev cX9_takeDown : ByteArray := prog_11_method_14_code
def yX9_takeDown : MethodName := ⟨RX9, "takeDown", "(I)V"⟩
abbrev cX9_holds : ByteArray := prog_11_method_15_code
def yX9_holds : MethodName := ⟨RX9, "holds", "(IIII)Z"⟩
abbrev cX9_isAhead : ByteArray := prog_11_method_16_code
def yX9_isAhead : MethodName := ⟨RX9, "isAhead", "(II)Z"⟩
abbrev cX9_ruleAt : ByteArray := prog_11_method_17_code
def yX9_ruleAt : MethodName := ⟨RX9, "ruleAt", "(III)I"⟩
abbrev cX9_rule : ByteArray := prog_11_method_18_code
def yX9_rule : MethodName := ⟨RX9, "rule", "(III)I"⟩
abbrev cX9_ruleAnew : ByteArray := prog_11_method_19_code
def yX9_ruleAnew : MethodName := ⟨RX9, "ruleAnew", "(III)I"⟩
abbrev cX9_car : ByteArray := prog_11_method_20_code
def yX9_car : MethodName := ⟨RX9, "car", "(II)I"⟩
abbrev cX9_ofHome : ByteArray := prog_11_method_21_code
def yX9_ofHome : MethodName := ⟨RX9, "ofHome", "(II)I"⟩
abbrev cX9_hasRoom : ByteArray := prog_11_method_22_code
def yX9_hasRoom : MethodName := ⟨RX9, "hasRoom", "(III)Z"⟩
abbrev cX9_permit : ByteArray := prog_11_method_23_code
def yX9_permit : MethodName := ⟨RX9, "permit", "(IIIII)I"⟩
abbrev cX9_hand : ByteArray := prog_11_method_24_code
def yX9_hand : MethodName := ⟨RX9, "hand", "(II)I"⟩
abbrev cX9_userOn : ByteArray := prog_11_method_25_code
def yX9_userOn : MethodName := ⟨RX9, "userOn", "(III)I"⟩
abbrev cX9_countsAs : ByteArray := prog_11_method_26_code
def yX9_countsAs : MethodName := ⟨RX9, "countsAs", "(II)I"⟩
abbrev cX9_isGap : ByteArray := prog_11_method_27_code
def yX9_isGap : MethodName := ⟨RX9, "isGap", "(III)Z"⟩
abbrev cX9_park : ByteArray := prog_11_method_28_code
def yX9_park : MethodName := ⟨RX9, "park", "(III)V"⟩
abbrev cX9_leave : ByteArray := prog_11_method_29_code
def yX9_leave : MethodName := ⟨RX9, "leave", "(I)I"⟩
abbrev cX9_gap : ByteArray := prog_11_method_30_code
def yX9_gap : MethodName := ⟨RX9, "gap", "(II)I"⟩
abbrev cX9_pay : ByteArray := prog_11_method_31_code
def yX9_pay : MethodName := ⟨RX9, "pay", "(IIII)I"⟩
abbrev cX9_isCovered : ByteArray := prog_11_method_32_code
def yX9_isCovered : MethodName := ⟨RX9, "isCovered", "(III)Z"⟩
abbrev cX9_isBlockedAt : ByteArray := prog_11_method_33_code
def yX9_isBlockedAt : MethodName := ⟨RX9, "isBlockedAt", "(I)Z"⟩
abbrev cX9_isForbidden : ByteArray := prog_11_method_34_code
def yX9_isForbidden : MethodName := ⟨RX9, "isForbidden", "(IIII)Z"⟩
abbrev cX9_judged : ByteArray := prog_11_method_35_code
def yX9_judged : MethodName := ⟨RX9, "judged", "(IIIII)I"⟩
abbrev cX9_judgedNow : ByteArray := prog_11_method_36_code
def yX9_judgedNow : MethodName := ⟨RX9, "judgedNow", "(I)I"⟩
abbrev cX9_judge : ByteArray := prog_11_method_37_code
def yX9_judge : MethodName := ⟨RX9, "judge", "(I)I"⟩
abbrev cX9_hasFine : ByteArray := prog_11_method_38_code
def yX9_hasFine : MethodName := ⟨RX9, "hasFine", "(I)Z"⟩
abbrev cX9_gives : ByteArray := prog_11_method_39_code
def yX9_gives : MethodName := ⟨RX9, "gives", "(II)V"⟩
abbrev cX9_look : ByteArray := prog_11_method_40_code
def yX9_look : MethodName := ⟨RX9, "look", "(I)I"⟩
abbrev cX9_isFine : ByteArray := prog_11_method_41_code
def yX9_isFine : MethodName := ⟨RX9, "isFine", "(I)Z"⟩
abbrev cX9_appeal : ByteArray := prog_11_method_42_code
def yX9_appeal : MethodName := ⟨RX9, "appeal", "(I)Z"⟩
abbrev cX9_amount : ByteArray := prog_11_method_43_code
def yX9_amount : MethodName := ⟨RX9, "amount", "(I)I"⟩
abbrev cX9_payFine : ByteArray := prog_11_method_44_code
def yX9_payFine : MethodName := ⟨RX9, "payFine", "(I)I"⟩
abbrev cX9_fine : ByteArray := prog_11_method_45_code
def yX9_fine : MethodName := ⟨RX9, "fine", "(II)I"⟩
abbrev cX9_debtOf : ByteArray := prog_11_method_46_code
def yX9_debtOf : MethodName := ⟨RX9, "debtOf", "(I)I"⟩
abbrev cX9_debt : ByteArray := prog_11_method_47_code
def yX9_debt : MethodName := ⟨RX9, "debt", "(I)I"⟩
abbrev cX9_tow : ByteArray := prog_11_method_48_code
def yX9_tow : MethodName := ⟨RX9, "tow", "(I)I"⟩
abbrev cX9_takenIn : ByteArray := prog_11_method_49_code
def yX9_takenIn : MethodName := ⟨RX9, "takenIn", "(I)I"⟩
abbrev cX9_streetIs : ByteArray := prog_11_method_50_code
def yX9_streetIs : MethodName := ⟨RX9, "streetIs", "(II)I"⟩
abbrev cX9_begins : ByteArray := prog_11_method_51_code
def yX9_begins : MethodName := ⟨RX9, "begins", "(I)V"⟩
abbrev cX9_pass : ByteArray := prog_11_method_52_code
def yX9_pass : MethodName := ⟨RX9, "pass", "(I)I"⟩
def RJx145de : String := "java/io/Serializable"
def TJx145de : u_T := fun k => match k with
  | _ => ("", "", "", false)
def tyJx145de : Nat → FieldType := fun k => match k with
  | _ => .int
abbrev wsJx145de0 : List Cond := u_ws RJx145de TJx145de 0
theorem nmJx145de : ∀ a, a < 0 → ∀ b, b < 0 → a ≠ b → (TJx145de a).2.1 ≠ (TJx145de b).2.1 := by decide +kernel
theorem tyJx145de_ok : ∀ k, k < 0 → parseFieldDescriptor (TJx145de k).2.2.1 = some (tyJx145de k) := by decide +kernel
def RJx8e188 : String := "java/lang/Cloneable"
def TJx8e188 : u_T := fun k => match k with
  | _ => ("", "", "", false)
def tyJx8e188 : Nat → FieldType := fun k => match k with
  | _ => .int
abbrev wsJx8e1880 : List Cond := u_ws RJx8e188 TJx8e188 0
theorem nmJx8e188 : ∀ a, a < 0 → ∀ b, b < 0 → a ≠ b → (TJx8e188 a).2.1 ≠ (TJx8e188 b).2.1 := by decide +kernel
theorem tyJx8e188_ok : ∀ k, k < 0 → parseFieldDescriptor (TJx8e188 k).2.2.1 = some (tyJx8e188 k) := by decide +kernel
def RJxab1ab : String := "java/lang/Iterable"
def TJxab1ab : u_T := fun k => match k with
  | _ => ("", "", "", false)
def tyJxab1ab : Nat → FieldType := fun k => match k with
  | _ => .int
abbrev wsJxab1ab0 : List Cond := u_ws RJxab1ab TJxab1ab 0
theorem nmJxab1ab : ∀ a, a < 0 → ∀ b, b < 0 → a ≠ b → (TJxab1ab a).2.1 ≠ (TJxab1ab b).2.1 := by decide +kernel
theorem tyJxab1ab_ok : ∀ k, k < 0 → parseFieldDescriptor (TJxab1ab k).2.2.1 = some (tyJxab1ab k) := by decide +kernel
def RJ9 : String := "java/lang/Math"
def TJ9 : u_T := fun k => match k with
  | _ => ("", "", "", false)
def tyJ9 : Nat → FieldType := fun k => match k with
  | _ => .int
abbrev wsJ90 : List Cond := u_ws RJ9 TJ9 0
theorem nmJ9 : ∀ a, a < 0 → ∀ b, b < 0 → a ≠ b → (TJ9 a).2.1 ≠ (TJ9 b).2.1 := by decide +kernel
theorem tyJ9_ok : ∀ k, k < 0 → parseFieldDescriptor (TJ9 k).2.2.1 = some (tyJ9 k) := by decide +kernel
abbrev cJ9_max_7cf53 : ByteArray := prog_19_method_65_code
def yJ9_max_7cf53 : MethodName := ⟨RJ9, "max", "(II)I"⟩
abbrev cJ9_min_7cf53 : ByteArray := prog_19_method_69_code
def yJ9_min_7cf53 : MethodName := ⟨RJ9, "min", "(II)I"⟩
def RJ0 : String := "java/lang/String"
def TJ0 : u_T := fun k => match k with
  | _ => ("", "", "", false)
def tyJ0 : Nat → FieldType := fun k => match k with
  | _ => .int
abbrev wsJ00 : List Cond := u_ws RJ0 TJ0 0
theorem nmJ0 : ∀ a, a < 0 → ∀ b, b < 0 → a ≠ b → (TJ0 a).2.1 ≠ (TJ0 b).2.1 := by decide +kernel
theorem tyJ0_ok : ∀ k, k < 0 → parseFieldDescriptor (TJ0 k).2.2.1 = some (tyJ0 k) := by decide +kernel
def RJ10 : String := "java/lang/System"
def TJ10 : u_T := fun k => match k with
  | _ => ("", "", "", false)
def tyJ10 : Nat → FieldType := fun k => match k with
  | _ => .int
abbrev wsJ100 : List Cond := u_ws RJ10 TJ10 0
theorem nmJ10 : ∀ a, a < 0 → ∀ b, b < 0 → a ≠ b → (TJ10 a).2.1 ≠ (TJ10 b).2.1 := by decide +kernel
theorem tyJ10_ok : ∀ k, k < 0 → parseFieldDescriptor (TJ10 k).2.2.1 = some (tyJ10 k) := by decide +kernel
def RJxa1e45 : String := "java/util/AbstractCollection"
def TJxa1e45 : u_T := fun k => match k with
  | _ => ("", "", "", false)
def tyJxa1e45 : Nat → FieldType := fun k => match k with
  | _ => .int
abbrev wsJxa1e450 : List Cond := u_ws RJxa1e45 TJxa1e45 0
theorem nmJxa1e45 : ∀ a, a < 0 → ∀ b, b < 0 → a ≠ b → (TJxa1e45 a).2.1 ≠ (TJxa1e45 b).2.1 := by decide +kernel
theorem tyJxa1e45_ok : ∀ k, k < 0 → parseFieldDescriptor (TJxa1e45 k).2.2.1 = some (tyJxa1e45 k) := by decide +kernel
abbrev cJxa1e45_init_da8c8 : ByteArray := prog_24_method_1_code
def yJxa1e45_init_da8c8 : MethodName := ⟨RJxa1e45, "<init>", "()V"⟩
def RJxc12de : String := "java/util/AbstractList"
def TJxc12de : u_T := fun k => match k with
  | _ => ("", "", "", false)
def tyJxc12de : Nat → FieldType := fun k => match k with
  | _ => .int
abbrev wsJxc12de0 : List Cond := u_ws RJxc12de TJxc12de 0
theorem nmJxc12de : ∀ a, a < 0 → ∀ b, b < 0 → a ≠ b → (TJxc12de a).2.1 ≠ (TJxc12de b).2.1 := by decide +kernel
theorem tyJxc12de_ok : ∀ k, k < 0 → parseFieldDescriptor (TJxc12de k).2.2.1 = some (tyJxc12de k) := by decide +kernel
abbrev cJxc12de_init_da8c8 : ByteArray := prog_25_method_1_code
def yJxc12de_init_da8c8 : MethodName := ⟨RJxc12de, "<init>", "()V"⟩
def RJx4a65c : String := "java/util/ArrayList"
def TJx4a65c : u_T := fun k => match k with
  | 0 => ("java/util/AbstractList", "modCount", "I", false)
  | 1 => ("java/util/ArrayList", "elementData", "[Ljava/lang/Object;", false)
  | _ => ("java/util/ArrayList", "size", "I", false)
def tyJx4a65c : Nat → FieldType := fun k => match k with
  | 0 => .int
  | 1 => .array (.object "java/lang/Object")
  | _ => .int
abbrev wsJx4a65c0 : List Cond := u_ws RJx4a65c TJx4a65c 3
theorem nmJx4a65c : ∀ a, a < 3 → ∀ b, b < 3 → a ≠ b → (TJx4a65c a).2.1 ≠ (TJx4a65c b).2.1 := by decide +kernel
theorem tyJx4a65c_ok : ∀ k, k < 3 → parseFieldDescriptor (TJx4a65c k).2.2.1 = some (tyJx4a65c k) := by decide +kernel
abbrev cJx4a65c_init_da8c8 : ByteArray := prog_26_method_2_code
def yJx4a65c_init_da8c8 : MethodName := ⟨RJx4a65c, "<init>", "()V"⟩
abbrev cJx4a65c_grow_92f84 : ByteArray := prog_26_method_6_code
def yJx4a65c_grow_92f84 : MethodName := ⟨RJx4a65c, "grow", "(I)[Ljava/lang/Object;"⟩
abbrev cJx4a65c_grow_d5877 : ByteArray := prog_26_method_7_code
def yJx4a65c_grow_d5877 : MethodName := ⟨RJx4a65c, "grow", "()[Ljava/lang/Object;"⟩
abbrev cJx4a65c_size_8abf5 : ByteArray := prog_26_method_8_code
def yJx4a65c_size_8abf5 : MethodName := ⟨RJx4a65c, "size", "()I"⟩
abbrev cJx4a65c_elementData_915e3 : ByteArray := prog_26_method_18_code
def yJx4a65c_elementData_915e3 : MethodName := ⟨RJx4a65c, "elementData", "(I)Ljava/lang/Object;"⟩
abbrev cJx4a65c_get_915e3 : ByteArray := prog_26_method_20_code
def yJx4a65c_get_915e3 : MethodName := ⟨RJx4a65c, "get", "(I)Ljava/lang/Object;"⟩
abbrev cJx4a65c_add_72be8 : ByteArray := prog_26_method_24_code
def yJx4a65c_add_72be8 : MethodName := ⟨RJx4a65c, "add", "(Ljava/lang/Object;[Ljava/lang/Object;I)V"⟩
abbrev cJx4a65c_add_9ea2d : ByteArray := prog_26_method_25_code
def yJx4a65c_add_9ea2d : MethodName := ⟨RJx4a65c, "add", "(Ljava/lang/Object;)Z"⟩
def RJ7 : String := "java/util/Arrays"
def TJ7 : u_T := fun k => match k with
  | _ => ("", "", "", false)
def tyJ7 : Nat → FieldType := fun k => match k with
  | _ => .int
abbrev wsJ70 : List Cond := u_ws RJ7 TJ7 0
theorem nmJ7 : ∀ a, a < 0 → ∀ b, b < 0 → a ≠ b → (TJ7 a).2.1 ≠ (TJ7 b).2.1 := by decide +kernel
theorem tyJ7_ok : ∀ k, k < 0 → parseFieldDescriptor (TJ7 k).2.2.1 = some (tyJ7 k) := by decide +kernel
abbrev cJ7_copyOf_1904c : ByteArray := prog_27_method_119_code
def yJ7_copyOf_1904c : MethodName := ⟨RJ7, "copyOf", "([Ljava/lang/Object;I)[Ljava/lang/Object;"⟩
abbrev cJ7_copyOf_6403c : ByteArray := prog_27_method_120_code
def yJ7_copyOf_6403c : MethodName := ⟨RJ7, "copyOf", "([Ljava/lang/Object;ILjava/lang/Class;)[Ljava/lang/Object;"⟩
def RJx5ef63 : String := "java/util/Collection"
def TJx5ef63 : u_T := fun k => match k with
  | _ => ("", "", "", false)
def tyJx5ef63 : Nat → FieldType := fun k => match k with
  | _ => .int
abbrev wsJx5ef630 : List Cond := u_ws RJx5ef63 TJx5ef63 0
theorem nmJx5ef63 : ∀ a, a < 0 → ∀ b, b < 0 → a ≠ b → (TJx5ef63 a).2.1 ≠ (TJx5ef63 b).2.1 := by decide +kernel
theorem tyJx5ef63_ok : ∀ k, k < 0 → parseFieldDescriptor (TJx5ef63 k).2.2.1 = some (tyJx5ef63 k) := by decide +kernel
def RJxbd725 : String := "java/util/List"
def TJxbd725 : u_T := fun k => match k with
  | _ => ("", "", "", false)
def tyJxbd725 : Nat → FieldType := fun k => match k with
  | _ => .int
abbrev wsJxbd7250 : List Cond := u_ws RJxbd725 TJxbd725 0
theorem nmJxbd725 : ∀ a, a < 0 → ∀ b, b < 0 → a ≠ b → (TJxbd725 a).2.1 ≠ (TJxbd725 b).2.1 := by decide +kernel
theorem tyJxbd725_ok : ∀ k, k < 0 → parseFieldDescriptor (TJxbd725 k).2.2.1 = some (tyJxbd725 k) := by decide +kernel
def RJ15 : String := "java/util/Objects"
def TJ15 : u_T := fun k => match k with
  | _ => ("", "", "", false)
def tyJ15 : Nat → FieldType := fun k => match k with
  | _ => .int
abbrev wsJ150 : List Cond := u_ws RJ15 TJ15 0
theorem nmJ15 : ∀ a, a < 0 → ∀ b, b < 0 → a ≠ b → (TJ15 a).2.1 ≠ (TJ15 b).2.1 := by decide +kernel
theorem tyJ15_ok : ∀ k, k < 0 → parseFieldDescriptor (TJ15 k).2.2.1 = some (tyJ15 k) := by decide +kernel
abbrev cJ15_checkIndex_7cf53 : ByteArray := prog_30_method_17_code
def yJ15_checkIndex_7cf53 : MethodName := ⟨RJ15, "checkIndex", "(II)I"⟩
def RJxf0a74 : String := "java/util/RandomAccess"
def TJxf0a74 : u_T := fun k => match k with
  | _ => ("", "", "", false)
def tyJxf0a74 : Nat → FieldType := fun k => match k with
  | _ => .int
abbrev wsJxf0a740 : List Cond := u_ws RJxf0a74 TJxf0a74 0
theorem nmJxf0a74 : ∀ a, a < 0 → ∀ b, b < 0 → a ≠ b → (TJxf0a74 a).2.1 ≠ (TJxf0a74 b).2.1 := by decide +kernel
theorem tyJxf0a74_ok : ∀ k, k < 0 → parseFieldDescriptor (TJxf0a74 k).2.2.1 = some (tyJxf0a74 k) := by decide +kernel
def RJxa66e6 : String := "java/util/SequencedCollection"
def TJxa66e6 : u_T := fun k => match k with
  | _ => ("", "", "", false)
def tyJxa66e6 : Nat → FieldType := fun k => match k with
  | _ => .int
abbrev wsJxa66e60 : List Cond := u_ws RJxa66e6 TJxa66e6 0
theorem nmJxa66e6 : ∀ a, a < 0 → ∀ b, b < 0 → a ≠ b → (TJxa66e6 a).2.1 ≠ (TJxa66e6 b).2.1 := by decide +kernel
theorem tyJxa66e6_ok : ∀ k, k < 0 → parseFieldDescriptor (TJxa66e6 k).2.2.1 = some (tyJxa66e6 k) := by decide +kernel
def RJ8 : String := "jdk/internal/util/ArraysSupport"
def TJ8 : u_T := fun k => match k with
  | _ => ("", "", "", false)
def tyJ8 : Nat → FieldType := fun k => match k with
  | _ => .int
abbrev wsJ80 : List Cond := u_ws RJ8 TJ8 0
theorem nmJ8 : ∀ a, a < 0 → ∀ b, b < 0 → a ≠ b → (TJ8 a).2.1 ≠ (TJ8 b).2.1 := by decide +kernel
theorem tyJ8_ok : ∀ k, k < 0 → parseFieldDescriptor (TJ8 k).2.2.1 = some (tyJ8 k) := by decide +kernel
abbrev cJ8_newLength_cabcc : ByteArray := prog_33_method_27_code
def yJ8_newLength_cabcc : MethodName := ⟨RJ8, "newLength", "(III)I"⟩
abbrev cJ8_hugeLength_7cf53 : ByteArray := prog_33_method_28_code
def yJ8_hugeLength_7cf53 : MethodName := ⟨RJ8, "hugeLength", "(II)I"⟩
def RJ3 : String := "jdk/internal/util/Preconditions"
def TJ3 : u_T := fun k => match k with
  | _ => ("", "", "", false)
def tyJ3 : Nat → FieldType := fun k => match k with
  | _ => .int
abbrev wsJ30 : List Cond := u_ws RJ3 TJ3 0
theorem nmJ3 : ∀ a, a < 0 → ∀ b, b < 0 → a ≠ b → (TJ3 a).2.1 ≠ (TJ3 b).2.1 := by decide +kernel
theorem tyJ3_ok : ∀ k, k < 0 → parseFieldDescriptor (TJ3 k).2.2.1 = some (tyJ3 k) := by decide +kernel
abbrev cJ3_checkIndex_8e157 : ByteArray := prog_34_method_11_code
def yJ3_checkIndex_8e157 : MethodName := ⟨RJ3, "checkIndex", "(IILjava/util/function/BiFunction;)I"⟩
def RL : String := "KerbHoursLaw"
abbrev cL_block : ByteArray := method_3_code
def yL_block : MethodName := ⟨RL, "block", "(LKerbHours;IIZ[J)I"⟩
abbrev cL_times : ByteArray := method_4_code
def yL_times : MethodName := ⟨RL, "times", "(LKerbHours;III)I"⟩
abbrev cL_dates : ByteArray := method_5_code
def yL_dates : MethodName := ⟨RL, "dates", "(LKerbHours;II)I"⟩
abbrev cL_sign : ByteArray := method_6_code
def yL_sign : MethodName := ⟨RL, "sign", "(LKerbHours;IIIIIZZ[J)I"⟩
abbrev cL_takeDown : ByteArray := method_7_code
def yL_takeDown : MethodName := ⟨RL, "takeDown", "(LKerbHours;I)I"⟩
abbrev cL_rule : ByteArray := method_8_code
def yL_rule : MethodName := ⟨RL, "rule", "(LKerbHours;III[J)I"⟩
abbrev cL_ruleAnew : ByteArray := method_9_code
def yL_ruleAnew : MethodName := ⟨RL, "ruleAnew", "(LKerbHours;III[J)I"⟩
abbrev cL_car : ByteArray := method_10_code
def yL_car : MethodName := ⟨RL, "car", "(LKerbHours;II[J)I"⟩
abbrev cL_permit : ByteArray := method_11_code
def yL_permit : MethodName := ⟨RL, "permit", "(LKerbHours;IIIII[J)I"⟩
abbrev cL_hand : ByteArray := method_12_code
def yL_hand : MethodName := ⟨RL, "hand", "(LKerbHours;II[J)I"⟩
abbrev cL_countsAs : ByteArray := method_13_code
def yL_countsAs : MethodName := ⟨RL, "countsAs", "(LKerbHours;II[J)I"⟩
abbrev cL_park : ByteArray := method_14_code
def yL_park : MethodName := ⟨RL, "park", "(LKerbHours;III)I"⟩
abbrev cL_leave : ByteArray := method_15_code
def yL_leave : MethodName := ⟨RL, "leave", "(LKerbHours;I[J)I"⟩
abbrev cL_gap : ByteArray := method_16_code
def yL_gap : MethodName := ⟨RL, "gap", "(LKerbHours;II[J)I"⟩
abbrev cL_pay : ByteArray := method_17_code
def yL_pay : MethodName := ⟨RL, "pay", "(LKerbHours;IIII[J)I"⟩
abbrev cL_judge : ByteArray := method_18_code
def yL_judge : MethodName := ⟨RL, "judge", "(LKerbHours;I[J)I"⟩
abbrev cL_look : ByteArray := method_19_code
def yL_look : MethodName := ⟨RL, "look", "(LKerbHours;I[J)I"⟩
abbrev cL_appeal : ByteArray := method_20_code
def yL_appeal : MethodName := ⟨RL, "appeal", "(LKerbHours;I[J)I"⟩
abbrev cL_payFine : ByteArray := method_21_code
def yL_payFine : MethodName := ⟨RL, "payFine", "(LKerbHours;I[J)I"⟩
abbrev cL_fine : ByteArray := method_22_code
def yL_fine : MethodName := ⟨RL, "fine", "(LKerbHours;II[J)I"⟩
abbrev cL_debt : ByteArray := method_23_code
def yL_debt : MethodName := ⟨RL, "debt", "(LKerbHours;I[J)I"⟩
abbrev cL_tow : ByteArray := method_24_code
def yL_tow : MethodName := ⟨RL, "tow", "(LKerbHours;I[J)I"⟩
abbrev cL_streetIs : ByteArray := method_25_code
def yL_streetIs : MethodName := ⟨RL, "streetIs", "(LKerbHours;II[J)I"⟩
abbrev cL_pass : ByteArray := method_26_code
def yL_pass : MethodName := ⟨RL, "pass", "(LKerbHours;I[J)I"⟩
abbrev cL_law : ByteArray := code
def yL_law : MethodName := ⟨RL, "law", "([I)Z"⟩
abbrev vwCl : List vw_C := [(RJx4a65c, TJx4a65c, 3), (RX0, TX0, 4), (RX1, TX1, 6), (RX2, TX2, 4), (RX3, TX3, 5), (RX4, TX4, 11), (RX5, TX5, 5), (RX6, TX6, 6), (RX7, TX7, 5), (RX8, TX8, 8), (RX9, TX9, 57)]
end
section
theorem dX0_init_0 : decode cX0_init 0 = .ok (.aload_n 0, 1) := by decide +kernel
theorem dX0_init_1 : decode cX0_init 1 = .ok (.invokespecial 1, 3) := by decide +kernel
theorem dX0_init_4 : decode cX0_init 4 = .ok (.aload_n 0, 1) := by decide +kernel
theorem dX0_init_5 : decode cX0_init 5 = .ok (.aconst_null, 1) := by decide +kernel
theorem dX0_init_6 : decode cX0_init 6 = .ok (.putfield 7, 3) := by decide +kernel
theorem dX0_init_9 : decode cX0_init 9 = .ok (.aload_n 0, 1) := by decide +kernel
theorem dX0_init_10 : decode cX0_init 10 = .ok (.iload_n 1, 1) := by decide +kernel
theorem dX0_init_11 : decode cX0_init 11 = .ok (.putfield 13, 3) := by decide +kernel
theorem dX0_init_14 : decode cX0_init 14 = .ok (.aload_n 0, 1) := by decide +kernel
theorem dX0_init_15 : decode cX0_init 15 = .ok (.iload_n 2, 1) := by decide +kernel
theorem dX0_init_16 : decode cX0_init 16 = .ok (.putfield 17, 3) := by decide +kernel
theorem dX0_init_19 : decode cX0_init 19 = .ok (.aload_n 0, 1) := by decide +kernel
theorem dX0_init_20 : decode cX0_init 20 = .ok (.iload_n 3, 1) := by decide +kernel
theorem dX0_init_21 : decode cX0_init 21 = .ok (.putfield 20, 3) := by decide +kernel
theorem dX0_init_24 : decode cX0_init 24 = .ok (.return_, 1) := by decide +kernel
theorem dX1_init_0 : decode cX1_init 0 = .ok (.aload_n 0, 1) := by decide +kernel
theorem dX1_init_1 : decode cX1_init 1 = .ok (.invokespecial 3, 3) := by decide +kernel
theorem dX1_init_4 : decode cX1_init 4 = .ok (.aload_n 0, 1) := by decide +kernel
theorem dX1_init_5 : decode cX1_init 5 = .ok (.iconst 0, 1) := by decide +kernel
theorem dX1_init_6 : decode cX1_init 6 = .ok (.putfield 9, 3) := by decide +kernel
theorem dX1_init_9 : decode cX1_init 9 = .ok (.aload_n 0, 1) := by decide +kernel
theorem dX1_init_10 : decode cX1_init 10 = .ok (.iconst 0, 1) := by decide +kernel
theorem dX1_init_11 : decode cX1_init 11 = .ok (.putfield 15, 3) := by decide +kernel
theorem dX1_init_14 : decode cX1_init 14 = .ok (.aload_n 0, 1) := by decide +kernel
theorem dX1_init_15 : decode cX1_init 15 = .ok (.iconst 0, 1) := by decide +kernel
theorem dX1_init_16 : decode cX1_init 16 = .ok (.putfield 18, 3) := by decide +kernel
theorem dX1_init_19 : decode cX1_init 19 = .ok (.aload_n 0, 1) := by decide +kernel
theorem dX1_init_20 : decode cX1_init 20 = .ok (.aload_n 1, 1) := by decide +kernel
theorem dX1_init_21 : decode cX1_init 21 = .ok (.putfield 21, 3) := by decide +kernel
theorem dX1_init_24 : decode cX1_init 24 = .ok (.aload_n 0, 1) := by decide +kernel
theorem dX1_init_25 : decode cX1_init 25 = .ok (.iload_n 2, 1) := by decide +kernel
theorem dX1_init_26 : decode cX1_init 26 = .ok (.putfield 25, 3) := by decide +kernel
theorem dX1_init_29 : decode cX1_init 29 = .ok (.aload_n 0, 1) := by decide +kernel
theorem dX1_init_30 : decode cX1_init 30 = .ok (.iload_n 3, 1) := by decide +kernel
theorem dX1_init_31 : decode cX1_init 31 = .ok (.putfield 29, 3) := by decide +kernel
theorem dX1_init_34 : decode cX1_init 34 = .ok (.return_, 1) := by decide +kernel
theorem dX1_isOpen_0 : decode cX1_isOpen 0 = .ok (.aload_n 0, 1) := by decide +kernel
theorem dX1_isOpen_1 : decode cX1_isOpen 1 = .ok (.getfield 18, 3) := by decide +kernel
theorem dX1_isOpen_4 : decode cX1_isOpen 4 = .ok (.ifCond .ne 14, 3) := by decide +kernel
theorem dX1_isOpen_7 : decode cX1_isOpen 7 = .ok (.aload_n 0, 1) := by decide +kernel
theorem dX1_isOpen_8 : decode cX1_isOpen 8 = .ok (.getfield 15, 3) := by decide +kernel
theorem dX1_isOpen_11 : decode cX1_isOpen 11 = .ok (.ifCond .ne 7, 3) := by decide +kernel
theorem dX1_isOpen_14 : decode cX1_isOpen 14 = .ok (.iconst 1, 1) := by decide +kernel
theorem dX1_isOpen_15 : decode cX1_isOpen 15 = .ok (.goto 4, 3) := by decide +kernel
theorem dX1_isOpen_18 : decode cX1_isOpen 18 = .ok (.iconst 0, 1) := by decide +kernel
theorem dX1_isOpen_19 : decode cX1_isOpen 19 = .ok (.ireturn, 1) := by decide +kernel
theorem dX1_amount_0 : decode cX1_amount 0 = .ok (.aload_n 0, 1) := by decide +kernel
theorem dX1_amount_1 : decode cX1_amount 1 = .ok (.getfield 29, 3) := by decide +kernel
theorem dX1_amount_4 : decode cX1_amount 4 = .ok (.tableswitch 44 1 4 #[32, 35, 38, 41], 32) := by decide +kernel
theorem dX1_amount_36 : decode cX1_amount 36 = .ok (.bipush 100, 2) := by decide +kernel
theorem dX1_amount_38 : decode cX1_amount 38 = .ok (.ireturn, 1) := by decide +kernel
theorem dX1_amount_39 : decode cX1_amount 39 = .ok (.bipush 60, 2) := by decide +kernel
theorem dX1_amount_41 : decode cX1_amount 41 = .ok (.ireturn, 1) := by decide +kernel
theorem dX1_amount_42 : decode cX1_amount 42 = .ok (.bipush 30, 2) := by decide +kernel
theorem dX1_amount_44 : decode cX1_amount 44 = .ok (.ireturn, 1) := by decide +kernel
theorem dX1_amount_45 : decode cX1_amount 45 = .ok (.bipush 40, 2) := by decide +kernel
theorem dX1_amount_47 : decode cX1_amount 47 = .ok (.ireturn, 1) := by decide +kernel
theorem dX1_amount_48 : decode cX1_amount 48 = .ok (.iconst 0, 1) := by decide +kernel
theorem dX1_amount_49 : decode cX1_amount 49 = .ok (.ireturn, 1) := by decide +kernel
theorem dX2_init_0 : decode cX2_init 0 = .ok (.aload_n 0, 1) := by decide +kernel
theorem dX2_init_1 : decode cX2_init 1 = .ok (.invokespecial 1, 3) := by decide +kernel
theorem dX2_init_4 : decode cX2_init 4 = .ok (.aload_n 0, 1) := by decide +kernel
theorem dX2_init_5 : decode cX2_init 5 = .ok (.iload_n 1, 1) := by decide +kernel
theorem dX2_init_6 : decode cX2_init 6 = .ok (.putfield 7, 3) := by decide +kernel
theorem dX2_init_9 : decode cX2_init 9 = .ok (.aload_n 0, 1) := by decide +kernel
theorem dX2_init_10 : decode cX2_init 10 = .ok (.iload_n 2, 1) := by decide +kernel
theorem dX2_init_11 : decode cX2_init 11 = .ok (.putfield 13, 3) := by decide +kernel
theorem dX2_init_14 : decode cX2_init 14 = .ok (.aload_n 0, 1) := by decide +kernel
theorem dX2_init_15 : decode cX2_init 15 = .ok (.iload_n 3, 1) := by decide +kernel
theorem dX2_init_16 : decode cX2_init 16 = .ok (.putfield 16, 3) := by decide +kernel
theorem dX2_init_19 : decode cX2_init 19 = .ok (.aload_n 0, 1) := by decide +kernel
theorem dX2_init_20 : decode cX2_init 20 = .ok (.iload 4, 2) := by decide +kernel
theorem dX2_init_22 : decode cX2_init 22 = .ok (.putfield 19, 3) := by decide +kernel
theorem dX2_init_25 : decode cX2_init 25 = .ok (.return_, 1) := by decide +kernel
theorem dX2_covers_0 : decode cX2_covers 0 = .ok (.iload_n 1, 1) := by decide +kernel
theorem dX2_covers_1 : decode cX2_covers 1 = .ok (.aload_n 0, 1) := by decide +kernel
theorem dX2_covers_2 : decode cX2_covers 2 = .ok (.getfield 16, 3) := by decide +kernel
theorem dX2_covers_5 : decode cX2_covers 5 = .ok (.if_icmp .lt 20, 3) := by decide +kernel
theorem dX2_covers_8 : decode cX2_covers 8 = .ok (.iload_n 1, 1) := by decide +kernel
theorem dX2_covers_9 : decode cX2_covers 9 = .ok (.aload_n 0, 1) := by decide +kernel
theorem dX2_covers_10 : decode cX2_covers 10 = .ok (.getfield 16, 3) := by decide +kernel
theorem dX2_covers_13 : decode cX2_covers 13 = .ok (.aload_n 0, 1) := by decide +kernel
theorem dX2_covers_14 : decode cX2_covers 14 = .ok (.getfield 19, 3) := by decide +kernel
theorem dX2_covers_17 : decode cX2_covers 17 = .ok (.iadd, 1) := by decide +kernel
theorem dX2_covers_18 : decode cX2_covers 18 = .ok (.if_icmp .ge 7, 3) := by decide +kernel
theorem dX2_covers_21 : decode cX2_covers 21 = .ok (.iconst 1, 1) := by decide +kernel
theorem dX2_covers_22 : decode cX2_covers 22 = .ok (.goto 4, 3) := by decide +kernel
theorem dX2_covers_25 : decode cX2_covers 25 = .ok (.iconst 0, 1) := by decide +kernel
theorem dX2_covers_26 : decode cX2_covers 26 = .ok (.ireturn, 1) := by decide +kernel
theorem dX3_init_0 : decode cX3_init 0 = .ok (.aload_n 0, 1) := by decide +kernel
theorem dX3_init_1 : decode cX3_init 1 = .ok (.invokespecial 1, 3) := by decide +kernel
theorem dX3_init_4 : decode cX3_init 4 = .ok (.aload_n 0, 1) := by decide +kernel
theorem dX3_init_5 : decode cX3_init 5 = .ok (.iload_n 1, 1) := by decide +kernel
theorem dX3_init_6 : decode cX3_init 6 = .ok (.putfield 7, 3) := by decide +kernel
theorem dX3_init_9 : decode cX3_init 9 = .ok (.aload_n 0, 1) := by decide +kernel
theorem dX3_init_10 : decode cX3_init 10 = .ok (.iload_n 2, 1) := by decide +kernel
theorem dX3_init_11 : decode cX3_init 11 = .ok (.putfield 13, 3) := by decide +kernel
theorem dX3_init_14 : decode cX3_init 14 = .ok (.aload_n 0, 1) := by decide +kernel
theorem dX3_init_15 : decode cX3_init 15 = .ok (.iload_n 3, 1) := by decide +kernel
theorem dX3_init_16 : decode cX3_init 16 = .ok (.putfield 16, 3) := by decide +kernel
theorem dX3_init_19 : decode cX3_init 19 = .ok (.aload_n 0, 1) := by decide +kernel
theorem dX3_init_20 : decode cX3_init 20 = .ok (.iload 4, 2) := by decide +kernel
theorem dX3_init_22 : decode cX3_init 22 = .ok (.putfield 19, 3) := by decide +kernel
theorem dX3_init_25 : decode cX3_init 25 = .ok (.aload_n 0, 1) := by decide +kernel
theorem dX3_init_26 : decode cX3_init 26 = .ok (.iload 5, 2) := by decide +kernel
theorem dX3_init_28 : decode cX3_init 28 = .ok (.putfield 22, 3) := by decide +kernel
theorem dX3_init_31 : decode cX3_init 31 = .ok (.return_, 1) := by decide +kernel
theorem dX3_holdsOn_0 : decode cX3_holdsOn 0 = .ok (.iload_n 1, 1) := by decide +kernel
theorem dX3_holdsOn_1 : decode cX3_holdsOn 1 = .ok (.aload_n 0, 1) := by decide +kernel
theorem dX3_holdsOn_2 : decode cX3_holdsOn 2 = .ok (.getfield 19, 3) := by decide +kernel
theorem dX3_holdsOn_5 : decode cX3_holdsOn 5 = .ok (.if_icmp .lt 15, 3) := by decide +kernel
theorem dX3_holdsOn_8 : decode cX3_holdsOn 8 = .ok (.iload_n 1, 1) := by decide +kernel
theorem dX3_holdsOn_9 : decode cX3_holdsOn 9 = .ok (.aload_n 0, 1) := by decide +kernel
theorem dX3_holdsOn_10 : decode cX3_holdsOn 10 = .ok (.getfield 22, 3) := by decide +kernel
theorem dX3_holdsOn_13 : decode cX3_holdsOn 13 = .ok (.if_icmp .gt 7, 3) := by decide +kernel
theorem dX3_holdsOn_16 : decode cX3_holdsOn 16 = .ok (.iconst 1, 1) := by decide +kernel
theorem dX3_holdsOn_17 : decode cX3_holdsOn 17 = .ok (.goto 4, 3) := by decide +kernel
theorem dX3_holdsOn_20 : decode cX3_holdsOn 20 = .ok (.iconst 0, 1) := by decide +kernel
theorem dX3_holdsOn_21 : decode cX3_holdsOn 21 = .ok (.ireturn, 1) := by decide +kernel
theorem dX4_init_0 : decode cX4_init 0 = .ok (.aload_n 0, 1) := by decide +kernel
theorem dX4_init_1 : decode cX4_init 1 = .ok (.invokespecial 3, 3) := by decide +kernel
theorem dX4_init_4 : decode cX4_init 4 = .ok (.aload_n 0, 1) := by decide +kernel
theorem dX4_init_5 : decode cX4_init 5 = .ok (.iconst (-1), 1) := by decide +kernel
theorem dX4_init_6 : decode cX4_init 6 = .ok (.putfield 9, 3) := by decide +kernel
theorem dX4_init_9 : decode cX4_init 9 = .ok (.aload_n 0, 1) := by decide +kernel
theorem dX4_init_10 : decode cX4_init 10 = .ok (.iload_n 1, 1) := by decide +kernel
theorem dX4_init_11 : decode cX4_init 11 = .ok (.putfield 15, 3) := by decide +kernel
theorem dX4_init_14 : decode cX4_init 14 = .ok (.aload_n 0, 1) := by decide +kernel
theorem dX4_init_15 : decode cX4_init 15 = .ok (.iload_n 2, 1) := by decide +kernel
theorem dX4_init_16 : decode cX4_init 16 = .ok (.putfield 18, 3) := by decide +kernel
theorem dX4_init_19 : decode cX4_init 19 = .ok (.aload_n 0, 1) := by decide +kernel
theorem dX4_init_20 : decode cX4_init 20 = .ok (.aload_n 3, 1) := by decide +kernel
theorem dX4_init_21 : decode cX4_init 21 = .ok (.putfield 21, 3) := by decide +kernel
theorem dX4_init_24 : decode cX4_init 24 = .ok (.return_, 1) := by decide +kernel
theorem dX4_setPlace_0 : decode cX4_setPlace 0 = .ok (.aload_n 0, 1) := by decide +kernel
theorem dX4_setPlace_1 : decode cX4_setPlace 1 = .ok (.iload_n 1, 1) := by decide +kernel
theorem dX4_setPlace_2 : decode cX4_setPlace 2 = .ok (.putfield 25, 3) := by decide +kernel
theorem dX4_setPlace_5 : decode cX4_setPlace 5 = .ok (.aload_n 0, 1) := by decide +kernel
theorem dX4_setPlace_6 : decode cX4_setPlace 6 = .ok (.iload_n 2, 1) := by decide +kernel
theorem dX4_setPlace_7 : decode cX4_setPlace 7 = .ok (.putfield 28, 3) := by decide +kernel
theorem dX4_setPlace_10 : decode cX4_setPlace 10 = .ok (.aload_n 0, 1) := by decide +kernel
theorem dX4_setPlace_11 : decode cX4_setPlace 11 = .ok (.iload_n 3, 1) := by decide +kernel
theorem dX4_setPlace_12 : decode cX4_setPlace 12 = .ok (.putfield 31, 3) := by decide +kernel
theorem dX4_setPlace_15 : decode cX4_setPlace 15 = .ok (.return_, 1) := by decide +kernel
theorem dX4_setTerms_0 : decode cX4_setTerms 0 = .ok (.aload_n 0, 1) := by decide +kernel
theorem dX4_setTerms_1 : decode cX4_setTerms 1 = .ok (.iload_n 1, 1) := by decide +kernel
theorem dX4_setTerms_2 : decode cX4_setTerms 2 = .ok (.putfield 34, 3) := by decide +kernel
theorem dX4_setTerms_5 : decode cX4_setTerms 5 = .ok (.aload_n 0, 1) := by decide +kernel
theorem dX4_setTerms_6 : decode cX4_setTerms 6 = .ok (.iload_n 2, 1) := by decide +kernel
theorem dX4_setTerms_7 : decode cX4_setTerms 7 = .ok (.putfield 37, 3) := by decide +kernel
theorem dX4_setTerms_10 : decode cX4_setTerms 10 = .ok (.aload_n 0, 1) := by decide +kernel
theorem dX4_setTerms_11 : decode cX4_setTerms 11 = .ok (.iload_n 3, 1) := by decide +kernel
theorem dX4_setTerms_12 : decode cX4_setTerms 12 = .ok (.putfield 40, 3) := by decide +kernel
theorem dX4_setTerms_15 : decode cX4_setTerms 15 = .ok (.aload_n 0, 1) := by decide +kernel
theorem dX4_setTerms_16 : decode cX4_setTerms 16 = .ok (.iload 4, 2) := by decide +kernel
theorem dX4_setTerms_18 : decode cX4_setTerms 18 = .ok (.putfield 44, 3) := by decide +kernel
theorem dX4_setTerms_21 : decode cX4_setTerms 21 = .ok (.return_, 1) := by decide +kernel
theorem dX4_holdsAt_0 : decode cX4_holdsAt 0 = .ok (.aload_n 0, 1) := by decide +kernel
theorem dX4_holdsAt_1 : decode cX4_holdsAt 1 = .ok (.getfield 25, 3) := by decide +kernel
theorem dX4_holdsAt_4 : decode cX4_holdsAt 4 = .ok (.iload_n 1, 1) := by decide +kernel
theorem dX4_holdsAt_5 : decode cX4_holdsAt 5 = .ok (.if_icmp .ne 50, 3) := by decide +kernel
theorem dX4_holdsAt_8 : decode cX4_holdsAt 8 = .ok (.iload_n 2, 1) := by decide +kernel
theorem dX4_holdsAt_9 : decode cX4_holdsAt 9 = .ok (.aload_n 0, 1) := by decide +kernel
theorem dX4_holdsAt_10 : decode cX4_holdsAt 10 = .ok (.getfield 28, 3) := by decide +kernel
theorem dX4_holdsAt_13 : decode cX4_holdsAt 13 = .ok (.if_icmp .lt 42, 3) := by decide +kernel
theorem dX4_holdsAt_16 : decode cX4_holdsAt 16 = .ok (.iload_n 2, 1) := by decide +kernel
theorem dX4_holdsAt_17 : decode cX4_holdsAt 17 = .ok (.aload_n 0, 1) := by decide +kernel
theorem dX4_holdsAt_18 : decode cX4_holdsAt 18 = .ok (.getfield 31, 3) := by decide +kernel
theorem dX4_holdsAt_21 : decode cX4_holdsAt 21 = .ok (.if_icmp .gt 34, 3) := by decide +kernel
theorem dX4_holdsAt_24 : decode cX4_holdsAt 24 = .ok (.aload_n 0, 1) := by decide +kernel
theorem dX4_holdsAt_25 : decode cX4_holdsAt 25 = .ok (.iload_n 3, 1) := by decide +kernel
theorem dX4_holdsAt_26 : decode cX4_holdsAt 26 = .ok (.invokevirtual 47, 3) := by decide +kernel
theorem dX4_holdsAt_29 : decode cX4_holdsAt 29 = .ok (.ifCond .eq 26, 3) := by decide +kernel
theorem dX4_holdsAt_32 : decode cX4_holdsAt 32 = .ok (.aload_n 0, 1) := by decide +kernel
theorem dX4_holdsAt_33 : decode cX4_holdsAt 33 = .ok (.iload_n 3, 1) := by decide +kernel
theorem dX4_holdsAt_34 : decode cX4_holdsAt 34 = .ok (.invokevirtual 51, 3) := by decide +kernel
theorem dX4_holdsAt_37 : decode cX4_holdsAt 37 = .ok (.ifCond .eq 18, 3) := by decide +kernel
theorem dX4_holdsAt_40 : decode cX4_holdsAt 40 = .ok (.aload_n 0, 1) := by decide +kernel
theorem dX4_holdsAt_41 : decode cX4_holdsAt 41 = .ok (.getfield 21, 3) := by decide +kernel
theorem dX4_holdsAt_44 : decode cX4_holdsAt 44 = .ok (.iload_n 3, 1) := by decide +kernel
theorem dX4_holdsAt_45 : decode cX4_holdsAt 45 = .ok (.invokevirtual 54, 3) := by decide +kernel
theorem dX4_holdsAt_48 : decode cX4_holdsAt 48 = .ok (.ifCond .eq 7, 3) := by decide +kernel
theorem dX4_holdsAt_51 : decode cX4_holdsAt 51 = .ok (.iconst 1, 1) := by decide +kernel
theorem dX4_holdsAt_52 : decode cX4_holdsAt 52 = .ok (.goto 4, 3) := by decide +kernel
theorem dX4_holdsAt_55 : decode cX4_holdsAt 55 = .ok (.iconst 0, 1) := by decide +kernel
theorem dX4_holdsAt_56 : decode cX4_holdsAt 56 = .ok (.ireturn, 1) := by decide +kernel
theorem dX4_isUp_0 : decode cX4_isUp 0 = .ok (.aload_n 0, 1) := by decide +kernel
theorem dX4_isUp_1 : decode cX4_isUp 1 = .ok (.getfield 18, 3) := by decide +kernel
theorem dX4_isUp_4 : decode cX4_isUp 4 = .ok (.iload_n 1, 1) := by decide +kernel
theorem dX4_isUp_5 : decode cX4_isUp 5 = .ok (.if_icmp .gt 23, 3) := by decide +kernel
theorem dX4_isUp_8 : decode cX4_isUp 8 = .ok (.aload_n 0, 1) := by decide +kernel
theorem dX4_isUp_9 : decode cX4_isUp 9 = .ok (.getfield 9, 3) := by decide +kernel
theorem dX4_isUp_12 : decode cX4_isUp 12 = .ok (.iconst (-1), 1) := by decide +kernel
theorem dX4_isUp_13 : decode cX4_isUp 13 = .ok (.if_icmp .eq 11, 3) := by decide +kernel
theorem dX4_isUp_16 : decode cX4_isUp 16 = .ok (.aload_n 0, 1) := by decide +kernel
theorem dX4_isUp_17 : decode cX4_isUp 17 = .ok (.getfield 9, 3) := by decide +kernel
theorem dX4_isUp_20 : decode cX4_isUp 20 = .ok (.iload_n 1, 1) := by decide +kernel
theorem dX4_isUp_21 : decode cX4_isUp 21 = .ok (.if_icmp .le 7, 3) := by decide +kernel
theorem dX4_isUp_24 : decode cX4_isUp 24 = .ok (.iconst 1, 1) := by decide +kernel
theorem dX4_isUp_25 : decode cX4_isUp 25 = .ok (.goto 4, 3) := by decide +kernel
theorem dX4_isUp_28 : decode cX4_isUp 28 = .ok (.iconst 0, 1) := by decide +kernel
theorem dX4_isUp_29 : decode cX4_isUp 29 = .ok (.ireturn, 1) := by decide +kernel
theorem dX4_isNoticed_0 : decode cX4_isNoticed 0 = .ok (.aload_n 0, 1) := by decide +kernel
theorem dX4_isNoticed_1 : decode cX4_isNoticed 1 = .ok (.getfield 44, 3) := by decide +kernel
theorem dX4_isNoticed_4 : decode cX4_isNoticed 4 = .ok (.ifCond .eq 19, 3) := by decide +kernel
theorem dX4_isNoticed_7 : decode cX4_isNoticed 7 = .ok (.iload_n 1, 1) := by decide +kernel
theorem dX4_isNoticed_8 : decode cX4_isNoticed 8 = .ok (.bipush 96, 2) := by decide +kernel
theorem dX4_isNoticed_10 : decode cX4_isNoticed 10 = .ok (.idiv, 1) := by decide +kernel
theorem dX4_isNoticed_11 : decode cX4_isNoticed 11 = .ok (.aload_n 0, 1) := by decide +kernel
theorem dX4_isNoticed_12 : decode cX4_isNoticed 12 = .ok (.getfield 18, 3) := by decide +kernel
theorem dX4_isNoticed_15 : decode cX4_isNoticed 15 = .ok (.bipush 96, 2) := by decide +kernel
theorem dX4_isNoticed_17 : decode cX4_isNoticed 17 = .ok (.idiv, 1) := by decide +kernel
theorem dX4_isNoticed_18 : decode cX4_isNoticed 18 = .ok (.iconst 3, 1) := by decide +kernel
theorem dX4_isNoticed_19 : decode cX4_isNoticed 19 = .ok (.iadd, 1) := by decide +kernel
theorem dX4_isNoticed_20 : decode cX4_isNoticed 20 = .ok (.if_icmp .lt 7, 3) := by decide +kernel
theorem dX4_isNoticed_23 : decode cX4_isNoticed 23 = .ok (.iconst 1, 1) := by decide +kernel
theorem dX4_isNoticed_24 : decode cX4_isNoticed 24 = .ok (.goto 4, 3) := by decide +kernel
theorem dX4_isNoticed_27 : decode cX4_isNoticed 27 = .ok (.iconst 0, 1) := by decide +kernel
theorem dX4_isNoticed_28 : decode cX4_isNoticed 28 = .ok (.ireturn, 1) := by decide +kernel
theorem dX4_goesAheadOf_0 : decode cX4_goesAheadOf 0 = .ok (.aload_n 0, 1) := by decide +kernel
theorem dX4_goesAheadOf_1 : decode cX4_goesAheadOf 1 = .ok (.getfield 44, 3) := by decide +kernel
theorem dX4_goesAheadOf_4 : decode cX4_goesAheadOf 4 = .ok (.aload_n 1, 1) := by decide +kernel
theorem dX4_goesAheadOf_5 : decode cX4_goesAheadOf 5 = .ok (.getfield 44, 3) := by decide +kernel
theorem dX4_goesAheadOf_8 : decode cX4_goesAheadOf 8 = .ok (.if_icmp .eq 8, 3) := by decide +kernel
theorem dX4_goesAheadOf_11 : decode cX4_goesAheadOf 11 = .ok (.aload_n 0, 1) := by decide +kernel
theorem dX4_goesAheadOf_12 : decode cX4_goesAheadOf 12 = .ok (.getfield 44, 3) := by decide +kernel
theorem dX4_goesAheadOf_15 : decode cX4_goesAheadOf 15 = .ok (.ireturn, 1) := by decide +kernel
theorem dX4_goesAheadOf_16 : decode cX4_goesAheadOf 16 = .ok (.aload_n 0, 1) := by decide +kernel
theorem dX4_goesAheadOf_17 : decode cX4_goesAheadOf 17 = .ok (.getfield 31, 3) := by decide +kernel
theorem dX4_goesAheadOf_20 : decode cX4_goesAheadOf 20 = .ok (.aload_n 0, 1) := by decide +kernel
theorem dX4_goesAheadOf_21 : decode cX4_goesAheadOf 21 = .ok (.getfield 28, 3) := by decide +kernel
theorem dX4_goesAheadOf_24 : decode cX4_goesAheadOf 24 = .ok (.isub, 1) := by decide +kernel
theorem dX4_goesAheadOf_25 : decode cX4_goesAheadOf 25 = .ok (.aload_n 1, 1) := by decide +kernel
theorem dX4_goesAheadOf_26 : decode cX4_goesAheadOf 26 = .ok (.getfield 31, 3) := by decide +kernel
theorem dX4_goesAheadOf_29 : decode cX4_goesAheadOf 29 = .ok (.aload_n 1, 1) := by decide +kernel
theorem dX4_goesAheadOf_30 : decode cX4_goesAheadOf 30 = .ok (.getfield 28, 3) := by decide +kernel
theorem dX4_goesAheadOf_33 : decode cX4_goesAheadOf 33 = .ok (.isub, 1) := by decide +kernel
theorem dX4_goesAheadOf_34 : decode cX4_goesAheadOf 34 = .ok (.if_icmp .eq 30, 3) := by decide +kernel
theorem dX4_goesAheadOf_37 : decode cX4_goesAheadOf 37 = .ok (.aload_n 0, 1) := by decide +kernel
theorem dX4_goesAheadOf_38 : decode cX4_goesAheadOf 38 = .ok (.getfield 31, 3) := by decide +kernel
theorem dX4_goesAheadOf_41 : decode cX4_goesAheadOf 41 = .ok (.aload_n 0, 1) := by decide +kernel
theorem dX4_goesAheadOf_42 : decode cX4_goesAheadOf 42 = .ok (.getfield 28, 3) := by decide +kernel
theorem dX4_goesAheadOf_45 : decode cX4_goesAheadOf 45 = .ok (.isub, 1) := by decide +kernel
theorem dX4_goesAheadOf_46 : decode cX4_goesAheadOf 46 = .ok (.aload_n 1, 1) := by decide +kernel
theorem dX4_goesAheadOf_47 : decode cX4_goesAheadOf 47 = .ok (.getfield 31, 3) := by decide +kernel
theorem dX4_goesAheadOf_50 : decode cX4_goesAheadOf 50 = .ok (.aload_n 1, 1) := by decide +kernel
theorem dX4_goesAheadOf_51 : decode cX4_goesAheadOf 51 = .ok (.getfield 28, 3) := by decide +kernel
theorem dX4_goesAheadOf_54 : decode cX4_goesAheadOf 54 = .ok (.isub, 1) := by decide +kernel
theorem dX4_goesAheadOf_55 : decode cX4_goesAheadOf 55 = .ok (.if_icmp .ge 7, 3) := by decide +kernel
theorem dX4_goesAheadOf_58 : decode cX4_goesAheadOf 58 = .ok (.iconst 1, 1) := by decide +kernel
theorem dX4_goesAheadOf_59 : decode cX4_goesAheadOf 59 = .ok (.goto 4, 3) := by decide +kernel
theorem dX4_goesAheadOf_62 : decode cX4_goesAheadOf 62 = .ok (.iconst 0, 1) := by decide +kernel
theorem dX4_goesAheadOf_63 : decode cX4_goesAheadOf 63 = .ok (.ireturn, 1) := by decide +kernel
theorem dX4_goesAheadOf_64 : decode cX4_goesAheadOf 64 = .ok (.aload_n 0, 1) := by decide +kernel
theorem dX4_goesAheadOf_65 : decode cX4_goesAheadOf 65 = .ok (.getfield 15, 3) := by decide +kernel
theorem dX4_goesAheadOf_68 : decode cX4_goesAheadOf 68 = .ok (.aload_n 1, 1) := by decide +kernel
theorem dX4_goesAheadOf_69 : decode cX4_goesAheadOf 69 = .ok (.getfield 15, 3) := by decide +kernel
theorem dX4_goesAheadOf_72 : decode cX4_goesAheadOf 72 = .ok (.if_icmp .le 7, 3) := by decide +kernel
theorem dX4_goesAheadOf_75 : decode cX4_goesAheadOf 75 = .ok (.iconst 1, 1) := by decide +kernel
theorem dX4_goesAheadOf_76 : decode cX4_goesAheadOf 76 = .ok (.goto 4, 3) := by decide +kernel
theorem dX4_goesAheadOf_79 : decode cX4_goesAheadOf 79 = .ok (.iconst 0, 1) := by decide +kernel
theorem dX4_goesAheadOf_80 : decode cX4_goesAheadOf 80 = .ok (.ireturn, 1) := by decide +kernel
theorem dX4_letsStand_0 : decode cX4_letsStand 0 = .ok (.aload_n 0, 1) := by decide +kernel
theorem dX4_letsStand_1 : decode cX4_letsStand 1 = .ok (.getfield 34, 3) := by decide +kernel
theorem dX4_letsStand_4 : decode cX4_letsStand 4 = .ok (.iload_n 1, 1) := by decide +kernel
theorem dX4_letsStand_5 : decode cX4_letsStand 5 = .ok (.ishr, 1) := by decide +kernel
theorem dX4_letsStand_6 : decode cX4_letsStand 6 = .ok (.iconst 1, 1) := by decide +kernel
theorem dX4_letsStand_7 : decode cX4_letsStand 7 = .ok (.iand, 1) := by decide +kernel
theorem dX4_letsStand_8 : decode cX4_letsStand 8 = .ok (.iconst 1, 1) := by decide +kernel
theorem dX4_letsStand_9 : decode cX4_letsStand 9 = .ok (.if_icmp .ne 7, 3) := by decide +kernel
theorem dX4_letsStand_12 : decode cX4_letsStand 12 = .ok (.iconst 1, 1) := by decide +kernel
theorem dX4_letsStand_13 : decode cX4_letsStand 13 = .ok (.goto 4, 3) := by decide +kernel
theorem dX4_letsStand_16 : decode cX4_letsStand 16 = .ok (.iconst 0, 1) := by decide +kernel
theorem dX4_letsStand_17 : decode cX4_letsStand 17 = .ok (.ireturn, 1) := by decide +kernel
theorem dX5_init_0 : decode cX5_init 0 = .ok (.aload_n 0, 1) := by decide +kernel
theorem dX5_init_1 : decode cX5_init 1 = .ok (.invokespecial 3, 3) := by decide +kernel
theorem dX5_init_4 : decode cX5_init 4 = .ok (.aload_n 0, 1) := by decide +kernel
theorem dX5_init_5 : decode cX5_init 5 = .ok (.iconst (-1), 1) := by decide +kernel
theorem dX5_init_6 : decode cX5_init 6 = .ok (.putfield 9, 3) := by decide +kernel
theorem dX5_init_9 : decode cX5_init 9 = .ok (.aload_n 0, 1) := by decide +kernel
theorem dX5_init_10 : decode cX5_init 10 = .ok (.aload_n 1, 1) := by decide +kernel
theorem dX5_init_11 : decode cX5_init 11 = .ok (.putfield 15, 3) := by decide +kernel
theorem dX5_init_14 : decode cX5_init 14 = .ok (.aload_n 0, 1) := by decide +kernel
theorem dX5_init_15 : decode cX5_init 15 = .ok (.iload_n 2, 1) := by decide +kernel
theorem dX5_init_16 : decode cX5_init 16 = .ok (.putfield 19, 3) := by decide +kernel
theorem dX5_init_19 : decode cX5_init 19 = .ok (.aload_n 0, 1) := by decide +kernel
theorem dX5_init_20 : decode cX5_init 20 = .ok (.iload_n 3, 1) := by decide +kernel
theorem dX5_init_21 : decode cX5_init 21 = .ok (.putfield 22, 3) := by decide +kernel
theorem dX5_init_24 : decode cX5_init 24 = .ok (.aload_n 0, 1) := by decide +kernel
theorem dX5_init_25 : decode cX5_init 25 = .ok (.iload 4, 2) := by decide +kernel
theorem dX5_init_27 : decode cX5_init 27 = .ok (.putfield 25, 3) := by decide +kernel
theorem dX5_init_30 : decode cX5_init 30 = .ok (.return_, 1) := by decide +kernel
theorem dX5_isTooNear_0 : decode cX5_isTooNear 0 = .ok (.iload_n 1, 1) := by decide +kernel
theorem dX5_isTooNear_1 : decode cX5_isTooNear 1 = .ok (.aload_n 0, 1) := by decide +kernel
theorem dX5_isTooNear_2 : decode cX5_isTooNear 2 = .ok (.getfield 22, 3) := by decide +kernel
theorem dX5_isTooNear_5 : decode cX5_isTooNear 5 = .ok (.aload_n 0, 1) := by decide +kernel
theorem dX5_isTooNear_6 : decode cX5_isTooNear 6 = .ok (.getfield 15, 3) := by decide +kernel
theorem dX5_isTooNear_9 : decode cX5_isTooNear 9 = .ok (.getfield 28, 3) := by decide +kernel
theorem dX5_isTooNear_12 : decode cX5_isTooNear 12 = .ok (.iadd, 1) := by decide +kernel
theorem dX5_isTooNear_13 : decode cX5_isTooNear 13 = .ok (.if_icmp .gt 17, 3) := by decide +kernel
theorem dX5_isTooNear_16 : decode cX5_isTooNear 16 = .ok (.aload_n 0, 1) := by decide +kernel
theorem dX5_isTooNear_17 : decode cX5_isTooNear 17 = .ok (.getfield 22, 3) := by decide +kernel
theorem dX5_isTooNear_20 : decode cX5_isTooNear 20 = .ok (.iload_n 1, 1) := by decide +kernel
theorem dX5_isTooNear_21 : decode cX5_isTooNear 21 = .ok (.iload_n 2, 1) := by decide +kernel
theorem dX5_isTooNear_22 : decode cX5_isTooNear 22 = .ok (.iadd, 1) := by decide +kernel
theorem dX5_isTooNear_23 : decode cX5_isTooNear 23 = .ok (.if_icmp .gt 7, 3) := by decide +kernel
theorem dX5_isTooNear_26 : decode cX5_isTooNear 26 = .ok (.iconst 1, 1) := by decide +kernel
theorem dX5_isTooNear_27 : decode cX5_isTooNear 27 = .ok (.goto 4, 3) := by decide +kernel
theorem dX5_isTooNear_30 : decode cX5_isTooNear 30 = .ok (.iconst 0, 1) := by decide +kernel
theorem dX5_isTooNear_31 : decode cX5_isTooNear 31 = .ok (.ireturn, 1) := by decide +kernel
theorem dX6_init_0 : decode cX6_init 0 = .ok (.aload_n 0, 1) := by decide +kernel
theorem dX6_init_1 : decode cX6_init 1 = .ok (.invokespecial 3, 3) := by decide +kernel
theorem dX6_init_4 : decode cX6_init 4 = .ok (.aload_n 0, 1) := by decide +kernel
theorem dX6_init_5 : decode cX6_init 5 = .ok (.bipush 60, 2) := by decide +kernel
theorem dX6_init_7 : decode cX6_init 7 = .ok (.newarray .boolean, 2) := by decide +kernel
theorem dX6_init_9 : decode cX6_init 9 = .ok (.putfield 9, 3) := by decide +kernel
theorem dX6_init_12 : decode cX6_init 12 = .ok (.aload_n 0, 1) := by decide +kernel
theorem dX6_init_13 : decode cX6_init 13 = .ok (.iconst 4, 1) := by decide +kernel
theorem dX6_init_14 : decode cX6_init 14 = .ok (.putfield 15, 3) := by decide +kernel
theorem dX6_init_17 : decode cX6_init 17 = .ok (.aload_n 0, 1) := by decide +kernel
theorem dX6_init_18 : decode cX6_init 18 = .ok (.iconst 0, 1) := by decide +kernel
theorem dX6_init_19 : decode cX6_init 19 = .ok (.putfield 19, 3) := by decide +kernel
theorem dX6_init_22 : decode cX6_init 22 = .ok (.aload_n 0, 1) := by decide +kernel
theorem dX6_init_23 : decode cX6_init 23 = .ok (.iconst 0, 1) := by decide +kernel
theorem dX6_init_24 : decode cX6_init 24 = .ok (.putfield 22, 3) := by decide +kernel
theorem dX6_init_27 : decode cX6_init 27 = .ok (.aload_n 0, 1) := by decide +kernel
theorem dX6_init_28 : decode cX6_init 28 = .ok (.iconst 0, 1) := by decide +kernel
theorem dX6_init_29 : decode cX6_init 29 = .ok (.putfield 25, 3) := by decide +kernel
theorem dX6_init_32 : decode cX6_init 32 = .ok (.aload_n 0, 1) := by decide +kernel
theorem dX6_init_33 : decode cX6_init 33 = .ok (.iconst 0, 1) := by decide +kernel
theorem dX6_init_34 : decode cX6_init 34 = .ok (.putfield 28, 3) := by decide +kernel
theorem dX6_init_37 : decode cX6_init 37 = .ok (.return_, 1) := by decide +kernel
theorem dX6_isBlocked_0 : decode cX6_isBlocked 0 = .ok (.iload_n 1, 1) := by decide +kernel
theorem dX6_isBlocked_1 : decode cX6_isBlocked 1 = .ok (.aload_n 0, 1) := by decide +kernel
theorem dX6_isBlocked_2 : decode cX6_isBlocked 2 = .ok (.getfield 9, 3) := by decide +kernel
theorem dX6_isBlocked_5 : decode cX6_isBlocked 5 = .ok (.arraylength, 1) := by decide +kernel
theorem dX6_isBlocked_6 : decode cX6_isBlocked 6 = .ok (.invokestatic 31, 3) := by decide +kernel
theorem dX6_isBlocked_9 : decode cX6_isBlocked 9 = .ok (.ifCond .eq 16, 3) := by decide +kernel
theorem dX6_isBlocked_12 : decode cX6_isBlocked 12 = .ok (.aload_n 0, 1) := by decide +kernel
theorem dX6_isBlocked_13 : decode cX6_isBlocked 13 = .ok (.getfield 9, 3) := by decide +kernel
theorem dX6_isBlocked_16 : decode cX6_isBlocked 16 = .ok (.iload_n 1, 1) := by decide +kernel
theorem dX6_isBlocked_17 : decode cX6_isBlocked 17 = .ok (.baload, 1) := by decide +kernel
theorem dX6_isBlocked_18 : decode cX6_isBlocked 18 = .ok (.ifCond .eq 7, 3) := by decide +kernel
theorem dX6_isBlocked_21 : decode cX6_isBlocked 21 = .ok (.iconst 1, 1) := by decide +kernel
theorem dX6_isBlocked_22 : decode cX6_isBlocked 22 = .ok (.goto 4, 3) := by decide +kernel
theorem dX6_isBlocked_25 : decode cX6_isBlocked 25 = .ok (.iconst 0, 1) := by decide +kernel
theorem dX6_isBlocked_26 : decode cX6_isBlocked 26 = .ok (.ireturn, 1) := by decide +kernel
theorem dX6_setBlocked_0 : decode cX6_setBlocked 0 = .ok (.iload_n 1, 1) := by decide +kernel
theorem dX6_setBlocked_1 : decode cX6_setBlocked 1 = .ok (.aload_n 0, 1) := by decide +kernel
theorem dX6_setBlocked_2 : decode cX6_setBlocked 2 = .ok (.getfield 9, 3) := by decide +kernel
theorem dX6_setBlocked_5 : decode cX6_setBlocked 5 = .ok (.arraylength, 1) := by decide +kernel
theorem dX6_setBlocked_6 : decode cX6_setBlocked 6 = .ok (.invokestatic 31, 3) := by decide +kernel
theorem dX6_setBlocked_9 : decode cX6_setBlocked 9 = .ok (.ifCond .eq 10, 3) := by decide +kernel
theorem dX6_setBlocked_12 : decode cX6_setBlocked 12 = .ok (.aload_n 0, 1) := by decide +kernel
theorem dX6_setBlocked_13 : decode cX6_setBlocked 13 = .ok (.getfield 9, 3) := by decide +kernel
theorem dX6_setBlocked_16 : decode cX6_setBlocked 16 = .ok (.iload_n 1, 1) := by decide +kernel
theorem dX6_setBlocked_17 : decode cX6_setBlocked 17 = .ok (.iload_n 2, 1) := by decide +kernel
theorem dX6_setBlocked_18 : decode cX6_setBlocked 18 = .ok (.bastore, 1) := by decide +kernel
theorem dX6_setBlocked_19 : decode cX6_setBlocked 19 = .ok (.return_, 1) := by decide +kernel
theorem dX6_beginDay_0 : decode cX6_beginDay 0 = .ok (.aload_n 0, 1) := by decide +kernel
theorem dX6_beginDay_1 : decode cX6_beginDay 1 = .ok (.getfield 22, 3) := by decide +kernel
theorem dX6_beginDay_4 : decode cX6_beginDay 4 = .ok (.bipush 100, 2) := by decide +kernel
theorem dX6_beginDay_6 : decode cX6_beginDay 6 = .ok (.imul, 1) := by decide +kernel
theorem dX6_beginDay_7 : decode cX6_beginDay 7 = .ok (.istore_n 1, 1) := by decide +kernel
theorem dX6_beginDay_8 : decode cX6_beginDay 8 = .ok (.iload_n 1, 1) := by decide +kernel
theorem dX6_beginDay_9 : decode cX6_beginDay 9 = .ok (.ldc 35, 2) := by decide +kernel
theorem dX6_beginDay_11 : decode cX6_beginDay 11 = .ok (.if_icmp .le 21, 3) := by decide +kernel
theorem dX6_beginDay_14 : decode cX6_beginDay 14 = .ok (.aload_n 0, 1) := by decide +kernel
theorem dX6_beginDay_15 : decode cX6_beginDay 15 = .ok (.aload_n 0, 1) := by decide +kernel
theorem dX6_beginDay_16 : decode cX6_beginDay 16 = .ok (.getfield 15, 3) := by decide +kernel
theorem dX6_beginDay_19 : decode cX6_beginDay 19 = .ok (.iconst 1, 1) := by decide +kernel
theorem dX6_beginDay_20 : decode cX6_beginDay 20 = .ok (.iadd, 1) := by decide +kernel
theorem dX6_beginDay_21 : decode cX6_beginDay 21 = .ok (.bipush 20, 2) := by decide +kernel
theorem dX6_beginDay_23 : decode cX6_beginDay 23 = .ok (.invokestatic 36, 3) := by decide +kernel
theorem dX6_beginDay_26 : decode cX6_beginDay 26 = .ok (.putfield 15, 3) := by decide +kernel
theorem dX6_beginDay_29 : decode cX6_beginDay 29 = .ok (.goto 23, 3) := by decide +kernel
theorem dX6_beginDay_32 : decode cX6_beginDay 32 = .ok (.iload_n 1, 1) := by decide +kernel
theorem dX6_beginDay_33 : decode cX6_beginDay 33 = .ok (.ldc 42, 2) := by decide +kernel
theorem dX6_beginDay_35 : decode cX6_beginDay 35 = .ok (.if_icmp .ge 17, 3) := by decide +kernel
theorem dX6_beginDay_38 : decode cX6_beginDay 38 = .ok (.aload_n 0, 1) := by decide +kernel
theorem dX6_beginDay_39 : decode cX6_beginDay 39 = .ok (.aload_n 0, 1) := by decide +kernel
theorem dX6_beginDay_40 : decode cX6_beginDay 40 = .ok (.getfield 15, 3) := by decide +kernel
theorem dX6_beginDay_43 : decode cX6_beginDay 43 = .ok (.iconst 1, 1) := by decide +kernel
theorem dX6_beginDay_44 : decode cX6_beginDay 44 = .ok (.isub, 1) := by decide +kernel
theorem dX6_beginDay_45 : decode cX6_beginDay 45 = .ok (.iconst 0, 1) := by decide +kernel
theorem dX6_beginDay_46 : decode cX6_beginDay 46 = .ok (.invokestatic 43, 3) := by decide +kernel
theorem dX6_beginDay_49 : decode cX6_beginDay 49 = .ok (.putfield 15, 3) := by decide +kernel
theorem dX6_beginDay_52 : decode cX6_beginDay 52 = .ok (.aload_n 0, 1) := by decide +kernel
theorem dX6_beginDay_53 : decode cX6_beginDay 53 = .ok (.iconst 0, 1) := by decide +kernel
theorem dX6_beginDay_54 : decode cX6_beginDay 54 = .ok (.putfield 22, 3) := by decide +kernel
theorem dX6_beginDay_57 : decode cX6_beginDay 57 = .ok (.return_, 1) := by decide +kernel
theorem dX7_init_0 : decode cX7_init 0 = .ok (.aload_n 0, 1) := by decide +kernel
theorem dX7_init_1 : decode cX7_init 1 = .ok (.invokespecial 3, 3) := by decide +kernel
theorem dX7_init_4 : decode cX7_init 4 = .ok (.aload_n 0, 1) := by decide +kernel
theorem dX7_init_5 : decode cX7_init 5 = .ok (.bipush 127, 2) := by decide +kernel
theorem dX7_init_7 : decode cX7_init 7 = .ok (.putfield 9, 3) := by decide +kernel
theorem dX7_init_10 : decode cX7_init 10 = .ok (.aload_n 0, 1) := by decide +kernel
theorem dX7_init_11 : decode cX7_init 11 = .ok (.iconst 0, 1) := by decide +kernel
theorem dX7_init_12 : decode cX7_init 12 = .ok (.putfield 15, 3) := by decide +kernel
theorem dX7_init_15 : decode cX7_init 15 = .ok (.aload_n 0, 1) := by decide +kernel
theorem dX7_init_16 : decode cX7_init 16 = .ok (.bipush 96, 2) := by decide +kernel
theorem dX7_init_18 : decode cX7_init 18 = .ok (.putfield 18, 3) := by decide +kernel
theorem dX7_init_21 : decode cX7_init 21 = .ok (.aload_n 0, 1) := by decide +kernel
theorem dX7_init_22 : decode cX7_init 22 = .ok (.iconst 0, 1) := by decide +kernel
theorem dX7_init_23 : decode cX7_init 23 = .ok (.putfield 21, 3) := by decide +kernel
theorem dX7_init_26 : decode cX7_init 26 = .ok (.aload_n 0, 1) := by decide +kernel
theorem dX7_init_27 : decode cX7_init 27 = .ok (.sipush 520, 3) := by decide +kernel
theorem dX7_init_30 : decode cX7_init 30 = .ok (.putfield 24, 3) := by decide +kernel
theorem dX7_init_33 : decode cX7_init 33 = .ok (.return_, 1) := by decide +kernel
theorem dX7_has_0 : decode cX7_has 0 = .ok (.iload_n 1, 1) := by decide +kernel
theorem dX7_has_1 : decode cX7_has 1 = .ok (.bipush 96, 2) := by decide +kernel
theorem dX7_has_3 : decode cX7_has 3 = .ok (.idiv, 1) := by decide +kernel
theorem dX7_has_4 : decode cX7_has 4 = .ok (.istore_n 2, 1) := by decide +kernel
theorem dX7_has_5 : decode cX7_has 5 = .ok (.iload_n 1, 1) := by decide +kernel
theorem dX7_has_6 : decode cX7_has 6 = .ok (.bipush 96, 2) := by decide +kernel
theorem dX7_has_8 : decode cX7_has 8 = .ok (.irem, 1) := by decide +kernel
theorem dX7_has_9 : decode cX7_has 9 = .ok (.istore_n 3, 1) := by decide +kernel
theorem dX7_has_10 : decode cX7_has 10 = .ok (.aload_n 0, 1) := by decide +kernel
theorem dX7_has_11 : decode cX7_has 11 = .ok (.getfield 9, 3) := by decide +kernel
theorem dX7_has_14 : decode cX7_has 14 = .ok (.iload_n 2, 1) := by decide +kernel
theorem dX7_has_15 : decode cX7_has 15 = .ok (.bipush 7, 2) := by decide +kernel
theorem dX7_has_17 : decode cX7_has 17 = .ok (.irem, 1) := by decide +kernel
theorem dX7_has_18 : decode cX7_has 18 = .ok (.ishr, 1) := by decide +kernel
theorem dX7_has_19 : decode cX7_has 19 = .ok (.iconst 1, 1) := by decide +kernel
theorem dX7_has_20 : decode cX7_has 20 = .ok (.iand, 1) := by decide +kernel
theorem dX7_has_21 : decode cX7_has 21 = .ok (.iconst 1, 1) := by decide +kernel
theorem dX7_has_22 : decode cX7_has 22 = .ok (.if_icmp .ne 39, 3) := by decide +kernel
theorem dX7_has_25 : decode cX7_has 25 = .ok (.iload_n 3, 1) := by decide +kernel
theorem dX7_has_26 : decode cX7_has 26 = .ok (.aload_n 0, 1) := by decide +kernel
theorem dX7_has_27 : decode cX7_has 27 = .ok (.getfield 15, 3) := by decide +kernel
theorem dX7_has_30 : decode cX7_has 30 = .ok (.if_icmp .lt 31, 3) := by decide +kernel
theorem dX7_has_33 : decode cX7_has 33 = .ok (.iload_n 3, 1) := by decide +kernel
theorem dX7_has_34 : decode cX7_has 34 = .ok (.aload_n 0, 1) := by decide +kernel
theorem dX7_has_35 : decode cX7_has 35 = .ok (.getfield 18, 3) := by decide +kernel
theorem dX7_has_38 : decode cX7_has 38 = .ok (.if_icmp .ge 23, 3) := by decide +kernel
theorem dX7_has_41 : decode cX7_has 41 = .ok (.iload_n 2, 1) := by decide +kernel
theorem dX7_has_42 : decode cX7_has 42 = .ok (.aload_n 0, 1) := by decide +kernel
theorem dX7_has_43 : decode cX7_has 43 = .ok (.getfield 21, 3) := by decide +kernel
theorem dX7_has_46 : decode cX7_has 46 = .ok (.if_icmp .lt 15, 3) := by decide +kernel
theorem dX7_has_49 : decode cX7_has 49 = .ok (.iload_n 2, 1) := by decide +kernel
theorem dX7_has_50 : decode cX7_has 50 = .ok (.aload_n 0, 1) := by decide +kernel
theorem dX7_has_51 : decode cX7_has 51 = .ok (.getfield 24, 3) := by decide +kernel
theorem dX7_has_54 : decode cX7_has 54 = .ok (.if_icmp .gt 7, 3) := by decide +kernel
theorem dX7_has_57 : decode cX7_has 57 = .ok (.iconst 1, 1) := by decide +kernel
theorem dX7_has_58 : decode cX7_has 58 = .ok (.goto 4, 3) := by decide +kernel
theorem dX7_has_61 : decode cX7_has 61 = .ok (.iconst 0, 1) := by decide +kernel
theorem dX7_has_62 : decode cX7_has 62 = .ok (.ireturn, 1) := by decide +kernel
theorem dX8_init_0 : decode cX8_init 0 = .ok (.aload_n 0, 1) := by decide +kernel
theorem dX8_init_1 : decode cX8_init 1 = .ok (.invokespecial 3, 3) := by decide +kernel
theorem dX8_init_4 : decode cX8_init 4 = .ok (.aload_n 0, 1) := by decide +kernel
theorem dX8_init_5 : decode cX8_init 5 = .ok (.new 9, 3) := by decide +kernel
theorem dX8_init_8 : decode cX8_init 8 = .ok (.dup, 1) := by decide +kernel
theorem dX8_init_9 : decode cX8_init 9 = .ok (.invokespecial 11, 3) := by decide +kernel
theorem dX8_init_12 : decode cX8_init 12 = .ok (.putfield 12, 3) := by decide +kernel
theorem dX8_init_15 : decode cX8_init 15 = .ok (.aload_n 0, 1) := by decide +kernel
theorem dX8_init_16 : decode cX8_init 16 = .ok (.new 9, 3) := by decide +kernel
theorem dX8_init_19 : decode cX8_init 19 = .ok (.dup, 1) := by decide +kernel
theorem dX8_init_20 : decode cX8_init 20 = .ok (.invokespecial 11, 3) := by decide +kernel
theorem dX8_init_23 : decode cX8_init 23 = .ok (.putfield 16, 3) := by decide +kernel
theorem dX8_init_26 : decode cX8_init 26 = .ok (.aload_n 0, 1) := by decide +kernel
theorem dX8_init_27 : decode cX8_init 27 = .ok (.new 9, 3) := by decide +kernel
theorem dX8_init_30 : decode cX8_init 30 = .ok (.dup, 1) := by decide +kernel
theorem dX8_init_31 : decode cX8_init 31 = .ok (.invokespecial 11, 3) := by decide +kernel
theorem dX8_init_34 : decode cX8_init 34 = .ok (.putfield 19, 3) := by decide +kernel
theorem dX8_init_37 : decode cX8_init 37 = .ok (.aload_n 0, 1) := by decide +kernel
theorem dX8_init_38 : decode cX8_init 38 = .ok (.new 9, 3) := by decide +kernel
theorem dX8_init_41 : decode cX8_init 41 = .ok (.dup, 1) := by decide +kernel
theorem dX8_init_42 : decode cX8_init 42 = .ok (.invokespecial 11, 3) := by decide +kernel
theorem dX8_init_45 : decode cX8_init 45 = .ok (.putfield 22, 3) := by decide +kernel
theorem dX8_init_48 : decode cX8_init 48 = .ok (.aload_n 0, 1) := by decide +kernel
theorem dX8_init_49 : decode cX8_init 49 = .ok (.new 9, 3) := by decide +kernel
theorem dX8_init_52 : decode cX8_init 52 = .ok (.dup, 1) := by decide +kernel
theorem dX8_init_53 : decode cX8_init 53 = .ok (.invokespecial 11, 3) := by decide +kernel
theorem dX8_init_56 : decode cX8_init 56 = .ok (.putfield 25, 3) := by decide +kernel
theorem dX8_init_59 : decode cX8_init 59 = .ok (.aload_n 0, 1) := by decide +kernel
theorem dX8_init_60 : decode cX8_init 60 = .ok (.new 9, 3) := by decide +kernel
theorem dX8_init_63 : decode cX8_init 63 = .ok (.dup, 1) := by decide +kernel
theorem dX8_init_64 : decode cX8_init 64 = .ok (.invokespecial 11, 3) := by decide +kernel
theorem dX8_init_67 : decode cX8_init 67 = .ok (.putfield 28, 3) := by decide +kernel
theorem dX8_init_70 : decode cX8_init 70 = .ok (.aload_n 0, 1) := by decide +kernel
theorem dX8_init_71 : decode cX8_init 71 = .ok (.new 31, 3) := by decide +kernel
theorem dX8_init_74 : decode cX8_init 74 = .ok (.dup, 1) := by decide +kernel
theorem dX8_init_75 : decode cX8_init 75 = .ok (.invokespecial 33, 3) := by decide +kernel
theorem dX8_init_78 : decode cX8_init 78 = .ok (.putfield 34, 3) := by decide +kernel
theorem dX8_init_81 : decode cX8_init 81 = .ok (.aload_n 0, 1) := by decide +kernel
theorem dX8_init_82 : decode cX8_init 82 = .ok (.iconst 0, 1) := by decide +kernel
theorem dX8_init_83 : decode cX8_init 83 = .ok (.putfield 38, 3) := by decide +kernel
theorem dX8_init_86 : decode cX8_init 86 = .ok (.iconst 0, 1) := by decide +kernel
theorem dX8_init_87 : decode cX8_init 87 = .ok (.istore_n 1, 1) := by decide +kernel
theorem dX8_init_88 : decode cX8_init 88 = .ok (.iload_n 1, 1) := by decide +kernel
theorem dX8_init_89 : decode cX8_init 89 = .ok (.iconst 4, 1) := by decide +kernel
theorem dX8_init_90 : decode cX8_init 90 = .ok (.if_icmp .ge 24, 3) := by decide +kernel
theorem dX8_init_93 : decode cX8_init 93 = .ok (.aload_n 0, 1) := by decide +kernel
theorem dX8_init_94 : decode cX8_init 94 = .ok (.getfield 12, 3) := by decide +kernel
theorem dX8_init_97 : decode cX8_init 97 = .ok (.new 42, 3) := by decide +kernel
theorem dX8_init_100 : decode cX8_init 100 = .ok (.dup, 1) := by decide +kernel
theorem dX8_init_101 : decode cX8_init 101 = .ok (.invokespecial 44, 3) := by decide +kernel
theorem dX8_init_104 : decode cX8_init 104 = .ok (.invokevirtual 45, 3) := by decide +kernel
theorem dX8_init_107 : decode cX8_init 107 = .ok (.pop, 1) := by decide +kernel
theorem dX8_init_108 : decode cX8_init 108 = .ok (.iinc 1 1, 3) := by decide +kernel
theorem dX8_init_111 : decode cX8_init 111 = .ok (.goto (-23), 3) := by decide +kernel
theorem dX8_init_114 : decode cX8_init 114 = .ok (.return_, 1) := by decide +kernel
theorem dX8_block_0 : decode cX8_block 0 = .ok (.aload_n 0, 1) := by decide +kernel
theorem dX8_block_1 : decode cX8_block 1 = .ok (.iload_n 1, 1) := by decide +kernel
theorem dX8_block_2 : decode cX8_block 2 = .ok (.invokevirtual 49, 3) := by decide +kernel
theorem dX8_block_5 : decode cX8_block 5 = .ok (.astore 4, 2) := by decide +kernel
theorem dX8_block_7 : decode cX8_block 7 = .ok (.iload_n 2, 1) := by decide +kernel
theorem dX8_block_8 : decode cX8_block 8 = .ok (.invokestatic 53, 3) := by decide +kernel
theorem dX8_block_11 : decode cX8_block 11 = .ok (.aload 4, 2) := by decide +kernel
theorem dX8_block_13 : decode cX8_block 13 = .ok (.iload_n 2, 1) := by decide +kernel
theorem dX8_block_14 : decode cX8_block 14 = .ok (.invokevirtual 57, 3) := by decide +kernel
theorem dX8_block_17 : decode cX8_block 17 = .ok (.istore 5, 2) := by decide +kernel
theorem dX8_block_19 : decode cX8_block 19 = .ok (.aload 4, 2) := by decide +kernel
theorem dX8_block_21 : decode cX8_block 21 = .ok (.iload_n 2, 1) := by decide +kernel
theorem dX8_block_22 : decode cX8_block 22 = .ok (.iload_n 3, 1) := by decide +kernel
theorem dX8_block_23 : decode cX8_block 23 = .ok (.invokevirtual 61, 3) := by decide +kernel
theorem dX8_block_26 : decode cX8_block 26 = .ok (.iload 5, 2) := by decide +kernel
theorem dX8_block_28 : decode cX8_block 28 = .ok (.ireturn, 1) := by decide +kernel
theorem dX8_times_0 : decode cX8_times 0 = .ok (.iload_n 1, 1) := by decide +kernel
theorem dX8_times_1 : decode cX8_times 1 = .ok (.iconst 1, 1) := by decide +kernel
theorem dX8_times_2 : decode cX8_times 2 = .ok (.bipush 127, 2) := by decide +kernel
theorem dX8_times_4 : decode cX8_times 4 = .ok (.invokestatic 65, 3) := by decide +kernel
theorem dX8_times_7 : decode cX8_times 7 = .ok (.ifCond .eq 29, 3) := by decide +kernel
theorem dX8_times_10 : decode cX8_times 10 = .ok (.iload_n 2, 1) := by decide +kernel
theorem dX8_times_11 : decode cX8_times 11 = .ok (.iconst 0, 1) := by decide +kernel
theorem dX8_times_12 : decode cX8_times 12 = .ok (.bipush 95, 2) := by decide +kernel
theorem dX8_times_14 : decode cX8_times 14 = .ok (.invokestatic 65, 3) := by decide +kernel
theorem dX8_times_17 : decode cX8_times 17 = .ok (.ifCond .eq 19, 3) := by decide +kernel
theorem dX8_times_20 : decode cX8_times 20 = .ok (.iload_n 3, 1) := by decide +kernel
theorem dX8_times_21 : decode cX8_times 21 = .ok (.iload_n 2, 1) := by decide +kernel
theorem dX8_times_22 : decode cX8_times 22 = .ok (.iconst 1, 1) := by decide +kernel
theorem dX8_times_23 : decode cX8_times 23 = .ok (.iadd, 1) := by decide +kernel
theorem dX8_times_24 : decode cX8_times 24 = .ok (.bipush 96, 2) := by decide +kernel
theorem dX8_times_26 : decode cX8_times 26 = .ok (.invokestatic 65, 3) := by decide +kernel
theorem dX8_times_29 : decode cX8_times 29 = .ok (.ifCond .eq 7, 3) := by decide +kernel
theorem dX8_times_32 : decode cX8_times 32 = .ok (.iconst 1, 1) := by decide +kernel
theorem dX8_times_33 : decode cX8_times 33 = .ok (.goto 4, 3) := by decide +kernel
theorem dX8_times_36 : decode cX8_times 36 = .ok (.iconst 0, 1) := by decide +kernel
theorem dX8_times_37 : decode cX8_times 37 = .ok (.invokestatic 69, 3) := by decide +kernel
theorem dX8_times_40 : decode cX8_times 40 = .ok (.aload_n 0, 1) := by decide +kernel
theorem dX8_times_41 : decode cX8_times 41 = .ok (.getfield 34, 3) := by decide +kernel
theorem dX8_times_44 : decode cX8_times 44 = .ok (.iload_n 1, 1) := by decide +kernel
theorem dX8_times_45 : decode cX8_times 45 = .ok (.putfield 73, 3) := by decide +kernel
theorem dX8_times_48 : decode cX8_times 48 = .ok (.aload_n 0, 1) := by decide +kernel
theorem dX8_times_49 : decode cX8_times 49 = .ok (.getfield 34, 3) := by decide +kernel
theorem dX8_times_52 : decode cX8_times 52 = .ok (.iload_n 2, 1) := by decide +kernel
theorem dX8_times_53 : decode cX8_times 53 = .ok (.putfield 76, 3) := by decide +kernel
theorem dX8_times_56 : decode cX8_times 56 = .ok (.aload_n 0, 1) := by decide +kernel
theorem dX8_times_57 : decode cX8_times 57 = .ok (.getfield 34, 3) := by decide +kernel
theorem dX8_times_60 : decode cX8_times 60 = .ok (.iload_n 3, 1) := by decide +kernel
theorem dX8_times_61 : decode cX8_times 61 = .ok (.putfield 79, 3) := by decide +kernel
theorem dX8_times_64 : decode cX8_times 64 = .ok (.return_, 1) := by decide +kernel
theorem dX8_dates_0 : decode cX8_dates 0 = .ok (.iload_n 1, 1) := by decide +kernel
theorem dX8_dates_1 : decode cX8_dates 1 = .ok (.iconst 0, 1) := by decide +kernel
theorem dX8_dates_2 : decode cX8_dates 2 = .ok (.sipush 520, 3) := by decide +kernel
theorem dX8_dates_5 : decode cX8_dates 5 = .ok (.invokestatic 65, 3) := by decide +kernel
theorem dX8_dates_8 : decode cX8_dates 8 = .ok (.ifCond .eq 18, 3) := by decide +kernel
theorem dX8_dates_11 : decode cX8_dates 11 = .ok (.iload_n 2, 1) := by decide +kernel
theorem dX8_dates_12 : decode cX8_dates 12 = .ok (.iload_n 1, 1) := by decide +kernel
theorem dX8_dates_13 : decode cX8_dates 13 = .ok (.sipush 520, 3) := by decide +kernel
theorem dX8_dates_16 : decode cX8_dates 16 = .ok (.invokestatic 65, 3) := by decide +kernel
theorem dX8_dates_19 : decode cX8_dates 19 = .ok (.ifCond .eq 7, 3) := by decide +kernel
theorem dX8_dates_22 : decode cX8_dates 22 = .ok (.iconst 1, 1) := by decide +kernel
theorem dX8_dates_23 : decode cX8_dates 23 = .ok (.goto 4, 3) := by decide +kernel
theorem dX8_dates_26 : decode cX8_dates 26 = .ok (.iconst 0, 1) := by decide +kernel
theorem dX8_dates_27 : decode cX8_dates 27 = .ok (.invokestatic 69, 3) := by decide +kernel
theorem dX8_dates_30 : decode cX8_dates 30 = .ok (.aload_n 0, 1) := by decide +kernel
theorem dX8_dates_31 : decode cX8_dates 31 = .ok (.getfield 34, 3) := by decide +kernel
theorem dX8_dates_34 : decode cX8_dates 34 = .ok (.iload_n 1, 1) := by decide +kernel
theorem dX8_dates_35 : decode cX8_dates 35 = .ok (.putfield 82, 3) := by decide +kernel
theorem dX8_dates_38 : decode cX8_dates 38 = .ok (.aload_n 0, 1) := by decide +kernel
theorem dX8_dates_39 : decode cX8_dates 39 = .ok (.getfield 34, 3) := by decide +kernel
theorem dX8_dates_42 : decode cX8_dates 42 = .ok (.iload_n 2, 1) := by decide +kernel
theorem dX8_dates_43 : decode cX8_dates 43 = .ok (.putfield 85, 3) := by decide +kernel
theorem dX8_dates_46 : decode cX8_dates 46 = .ok (.return_, 1) := by decide +kernel
theorem dX8_sign_0 : decode cX8_sign 0 = .ok (.aload_n 0, 1) := by decide +kernel
theorem dX8_sign_1 : decode cX8_sign 1 = .ok (.iload_n 1, 1) := by decide +kernel
theorem dX8_sign_2 : decode cX8_sign 2 = .ok (.invokevirtual 49, 3) := by decide +kernel
theorem dX8_sign_5 : decode cX8_sign 5 = .ok (.pop, 1) := by decide +kernel
theorem dX8_sign_6 : decode cX8_sign 6 = .ok (.iload_n 2, 1) := by decide +kernel
theorem dX8_sign_7 : decode cX8_sign 7 = .ok (.invokestatic 53, 3) := by decide +kernel
theorem dX8_sign_10 : decode cX8_sign 10 = .ok (.iload_n 3, 1) := by decide +kernel
theorem dX8_sign_11 : decode cX8_sign 11 = .ok (.invokestatic 53, 3) := by decide +kernel
theorem dX8_sign_14 : decode cX8_sign 14 = .ok (.iload_n 3, 1) := by decide +kernel
theorem dX8_sign_15 : decode cX8_sign 15 = .ok (.iload_n 2, 1) := by decide +kernel
theorem dX8_sign_16 : decode cX8_sign 16 = .ok (.if_icmp .lt 29, 3) := by decide +kernel
theorem dX8_sign_19 : decode cX8_sign 19 = .ok (.iload 4, 2) := by decide +kernel
theorem dX8_sign_21 : decode cX8_sign 21 = .ok (.iconst 0, 1) := by decide +kernel
theorem dX8_sign_22 : decode cX8_sign 22 = .ok (.bipush 31, 2) := by decide +kernel
theorem dX8_sign_24 : decode cX8_sign 24 = .ok (.invokestatic 65, 3) := by decide +kernel
theorem dX8_sign_27 : decode cX8_sign 27 = .ok (.ifCond .eq 18, 3) := by decide +kernel
theorem dX8_sign_30 : decode cX8_sign 30 = .ok (.iload 5, 2) := by decide +kernel
theorem dX8_sign_32 : decode cX8_sign 32 = .ok (.iconst 0, 1) := by decide +kernel
theorem dX8_sign_33 : decode cX8_sign 33 = .ok (.bipush 96, 2) := by decide +kernel
theorem dX8_sign_35 : decode cX8_sign 35 = .ok (.invokestatic 65, 3) := by decide +kernel
theorem dX8_sign_38 : decode cX8_sign 38 = .ok (.ifCond .eq 7, 3) := by decide +kernel
theorem dX8_sign_41 : decode cX8_sign 41 = .ok (.iconst 1, 1) := by decide +kernel
theorem dX8_sign_42 : decode cX8_sign 42 = .ok (.goto 4, 3) := by decide +kernel
theorem dX8_sign_45 : decode cX8_sign 45 = .ok (.iconst 0, 1) := by decide +kernel
theorem dX8_sign_46 : decode cX8_sign 46 = .ok (.invokestatic 69, 3) := by decide +kernel
theorem dX8_sign_49 : decode cX8_sign 49 = .ok (.aload_n 0, 1) := by decide +kernel
theorem dX8_sign_50 : decode cX8_sign 50 = .ok (.getfield 16, 3) := by decide +kernel
theorem dX8_sign_53 : decode cX8_sign 53 = .ok (.invokevirtual 88, 3) := by decide +kernel
theorem dX8_sign_56 : decode cX8_sign 56 = .ok (.bipush 30, 2) := by decide +kernel
theorem dX8_sign_58 : decode cX8_sign 58 = .ok (.if_icmp .ge 7, 3) := by decide +kernel
theorem dX8_sign_61 : decode cX8_sign 61 = .ok (.iconst 1, 1) := by decide +kernel
theorem dX8_sign_62 : decode cX8_sign 62 = .ok (.goto 4, 3) := by decide +kernel
theorem dX8_sign_65 : decode cX8_sign 65 = .ok (.iconst 0, 1) := by decide +kernel
theorem dX8_sign_66 : decode cX8_sign 66 = .ok (.invokestatic 92, 3) := by decide +kernel
theorem dX8_sign_69 : decode cX8_sign 69 = .ok (.new 95, 3) := by decide +kernel
theorem dX8_sign_72 : decode cX8_sign 72 = .ok (.dup, 1) := by decide +kernel
theorem dX8_sign_73 : decode cX8_sign 73 = .ok (.aload_n 0, 1) := by decide +kernel
theorem dX8_sign_74 : decode cX8_sign 74 = .ok (.getfield 16, 3) := by decide +kernel
theorem dX8_sign_77 : decode cX8_sign 77 = .ok (.invokevirtual 88, 3) := by decide +kernel
theorem dX8_sign_80 : decode cX8_sign 80 = .ok (.aload_n 0, 1) := by decide +kernel
theorem dX8_sign_81 : decode cX8_sign 81 = .ok (.getfield 38, 3) := by decide +kernel
theorem dX8_sign_84 : decode cX8_sign 84 = .ok (.aload_n 0, 1) := by decide +kernel
theorem dX8_sign_85 : decode cX8_sign 85 = .ok (.getfield 34, 3) := by decide +kernel
theorem dX8_sign_88 : decode cX8_sign 88 = .ok (.invokespecial 97, 3) := by decide +kernel
theorem dX8_sign_91 : decode cX8_sign 91 = .ok (.astore 8, 2) := by decide +kernel
theorem dX8_sign_93 : decode cX8_sign 93 = .ok (.aload 8, 2) := by decide +kernel
theorem dX8_sign_95 : decode cX8_sign 95 = .ok (.iload_n 1, 1) := by decide +kernel
theorem dX8_sign_96 : decode cX8_sign 96 = .ok (.iload_n 2, 1) := by decide +kernel
theorem dX8_sign_97 : decode cX8_sign 97 = .ok (.iload_n 3, 1) := by decide +kernel
theorem dX8_sign_98 : decode cX8_sign 98 = .ok (.invokevirtual 100, 3) := by decide +kernel
theorem dX8_sign_101 : decode cX8_sign 101 = .ok (.aload 8, 2) := by decide +kernel
theorem dX8_sign_103 : decode cX8_sign 103 = .ok (.iload 4, 2) := by decide +kernel
theorem dX8_sign_105 : decode cX8_sign 105 = .ok (.iload 5, 2) := by decide +kernel
theorem dX8_sign_107 : decode cX8_sign 107 = .ok (.iload 6, 2) := by decide +kernel
theorem dX8_sign_109 : decode cX8_sign 109 = .ok (.iload 7, 2) := by decide +kernel
theorem dX8_sign_111 : decode cX8_sign 111 = .ok (.invokevirtual 104, 3) := by decide +kernel
theorem dX8_sign_114 : decode cX8_sign 114 = .ok (.aload_n 0, 1) := by decide +kernel
theorem dX8_sign_115 : decode cX8_sign 115 = .ok (.getfield 16, 3) := by decide +kernel
theorem dX8_sign_118 : decode cX8_sign 118 = .ok (.aload 8, 2) := by decide +kernel
theorem dX8_sign_120 : decode cX8_sign 120 = .ok (.invokevirtual 45, 3) := by decide +kernel
theorem dX8_sign_123 : decode cX8_sign 123 = .ok (.pop, 1) := by decide +kernel
theorem dX8_sign_124 : decode cX8_sign 124 = .ok (.aload_n 0, 1) := by decide +kernel
theorem dX8_sign_125 : decode cX8_sign 125 = .ok (.new 31, 3) := by decide +kernel
theorem dX8_sign_128 : decode cX8_sign 128 = .ok (.dup, 1) := by decide +kernel
theorem dX8_sign_129 : decode cX8_sign 129 = .ok (.invokespecial 33, 3) := by decide +kernel
theorem dX8_sign_132 : decode cX8_sign 132 = .ok (.putfield 34, 3) := by decide +kernel
theorem dX8_sign_135 : decode cX8_sign 135 = .ok (.aload 8, 2) := by decide +kernel
theorem dX8_sign_137 : decode cX8_sign 137 = .ok (.getfield 108, 3) := by decide +kernel
theorem dX8_sign_140 : decode cX8_sign 140 = .ok (.ireturn, 1) := by decide +kernel
theorem dX8_takeDown_0 : decode cX8_takeDown 0 = .ok (.iload_n 1, 1) := by decide +kernel
theorem dX8_takeDown_1 : decode cX8_takeDown 1 = .ok (.aload_n 0, 1) := by decide +kernel
theorem dX8_takeDown_2 : decode cX8_takeDown 2 = .ok (.getfield 16, 3) := by decide +kernel
theorem dX8_takeDown_5 : decode cX8_takeDown 5 = .ok (.invokevirtual 88, 3) := by decide +kernel
theorem dX8_takeDown_8 : decode cX8_takeDown 8 = .ok (.invokestatic 111, 3) := by decide +kernel
theorem dX8_takeDown_11 : decode cX8_takeDown 11 = .ok (.ifCond .ne 13, 3) := by decide +kernel
theorem dX8_takeDown_14 : decode cX8_takeDown 14 = .ok (.new 115, 3) := by decide +kernel
theorem dX8_takeDown_17 : decode cX8_takeDown 17 = .ok (.dup, 1) := by decide +kernel
theorem dX8_takeDown_18 : decode cX8_takeDown 18 = .ok (.ldc 117, 2) := by decide +kernel
theorem dX8_takeDown_20 : decode cX8_takeDown 20 = .ok (.invokespecial 119, 3) := by decide +kernel
theorem dX8_takeDown_23 : decode cX8_takeDown 23 = .ok (.athrow, 1) := by decide +kernel
theorem dX8_takeDown_24 : decode cX8_takeDown 24 = .ok (.aload_n 0, 1) := by decide +kernel
theorem dX8_takeDown_25 : decode cX8_takeDown 25 = .ok (.getfield 16, 3) := by decide +kernel
theorem dX8_takeDown_28 : decode cX8_takeDown 28 = .ok (.iload_n 1, 1) := by decide +kernel
theorem dX8_takeDown_29 : decode cX8_takeDown 29 = .ok (.invokevirtual 122, 3) := by decide +kernel
theorem dX8_takeDown_32 : decode cX8_takeDown 32 = .ok (.checkcast 95, 3) := by decide +kernel
theorem dX8_takeDown_35 : decode cX8_takeDown 35 = .ok (.astore_n 2, 1) := by decide +kernel
theorem dX8_takeDown_36 : decode cX8_takeDown 36 = .ok (.aload_n 2, 1) := by decide +kernel
theorem dX8_takeDown_37 : decode cX8_takeDown 37 = .ok (.getfield 126, 3) := by decide +kernel
theorem dX8_takeDown_40 : decode cX8_takeDown 40 = .ok (.iconst (-1), 1) := by decide +kernel
theorem dX8_takeDown_41 : decode cX8_takeDown 41 = .ok (.if_icmp .ne 7, 3) := by decide +kernel
theorem dX8_takeDown_44 : decode cX8_takeDown 44 = .ok (.iconst 1, 1) := by decide +kernel
theorem dX8_takeDown_45 : decode cX8_takeDown 45 = .ok (.goto 4, 3) := by decide +kernel
theorem dX8_takeDown_48 : decode cX8_takeDown 48 = .ok (.iconst 0, 1) := by decide +kernel
theorem dX8_takeDown_49 : decode cX8_takeDown 49 = .ok (.invokestatic 92, 3) := by decide +kernel
theorem dX8_takeDown_52 : decode cX8_takeDown 52 = .ok (.aload_n 2, 1) := by decide +kernel
theorem dX8_takeDown_53 : decode cX8_takeDown 53 = .ok (.aload_n 0, 1) := by decide +kernel
theorem dX8_takeDown_54 : decode cX8_takeDown 54 = .ok (.getfield 38, 3) := by decide +kernel
theorem dX8_takeDown_57 : decode cX8_takeDown 57 = .ok (.putfield 126, 3) := by decide +kernel
theorem dX8_takeDown_60 : decode cX8_takeDown 60 = .ok (.return_, 1) := by decide +kernel
theorem dX8_rule_0 : decode cX8_rule 0 = .ok (.aload_n 0, 1) := by decide +kernel
theorem dX8_rule_1 : decode cX8_rule 1 = .ok (.iload_n 1, 1) := by decide +kernel
theorem dX8_rule_2 : decode cX8_rule 2 = .ok (.invokevirtual 49, 3) := by decide +kernel
theorem dX8_rule_5 : decode cX8_rule 5 = .ok (.pop, 1) := by decide +kernel
theorem dX8_rule_6 : decode cX8_rule 6 = .ok (.iload_n 2, 1) := by decide +kernel
theorem dX8_rule_7 : decode cX8_rule 7 = .ok (.invokestatic 53, 3) := by decide +kernel
theorem dX8_rule_10 : decode cX8_rule 10 = .ok (.iload_n 3, 1) := by decide +kernel
theorem dX8_rule_11 : decode cX8_rule 11 = .ok (.iconst 0, 1) := by decide +kernel
theorem dX8_rule_12 : decode cX8_rule 12 = .ok (.ldc 129, 2) := by decide +kernel
theorem dX8_rule_14 : decode cX8_rule 14 = .ok (.invokestatic 65, 3) := by decide +kernel
theorem dX8_rule_17 : decode cX8_rule 17 = .ok (.invokestatic 69, 3) := by decide +kernel
theorem dX8_rule_20 : decode cX8_rule 20 = .ok (.aload_n 0, 1) := by decide +kernel
theorem dX8_rule_21 : decode cX8_rule 21 = .ok (.iload_n 1, 1) := by decide +kernel
theorem dX8_rule_22 : decode cX8_rule 22 = .ok (.iload_n 2, 1) := by decide +kernel
theorem dX8_rule_23 : decode cX8_rule 23 = .ok (.iload_n 3, 1) := by decide +kernel
theorem dX8_rule_24 : decode cX8_rule 24 = .ok (.invokevirtual 130, 3) := by decide +kernel
theorem dX8_rule_27 : decode cX8_rule 27 = .ok (.astore 4, 2) := by decide +kernel
theorem dX8_rule_29 : decode cX8_rule 29 = .ok (.aload 4, 2) := by decide +kernel
theorem dX8_rule_31 : decode cX8_rule 31 = .ok (.ifnonnull 7, 3) := by decide +kernel
theorem dX8_rule_34 : decode cX8_rule 34 = .ok (.iconst (-1), 1) := by decide +kernel
theorem dX8_rule_35 : decode cX8_rule 35 = .ok (.goto 8, 3) := by decide +kernel
theorem dX8_rule_38 : decode cX8_rule 38 = .ok (.aload 4, 2) := by decide +kernel
theorem dX8_rule_40 : decode cX8_rule 40 = .ok (.getfield 108, 3) := by decide +kernel
theorem dX8_rule_43 : decode cX8_rule 43 = .ok (.ireturn, 1) := by decide +kernel
theorem dX8_ruleAnew_0 : decode cX8_ruleAnew 0 = .ok (.aload_n 0, 1) := by decide +kernel
theorem dX8_ruleAnew_1 : decode cX8_ruleAnew 1 = .ok (.iload_n 1, 1) := by decide +kernel
end
section
theorem dX8_ruleAnew_2 : decode cX8_ruleAnew 2 = .ok (.invokevirtual 49, 3) := by decide +kernel
theorem dX8_ruleAnew_5 : decode cX8_ruleAnew 5 = .ok (.pop, 1) := by decide +kernel
theorem dX8_ruleAnew_6 : decode cX8_ruleAnew 6 = .ok (.iload_n 2, 1) := by decide +kernel
theorem dX8_ruleAnew_7 : decode cX8_ruleAnew 7 = .ok (.invokestatic 53, 3) := by decide +kernel
theorem dX8_ruleAnew_10 : decode cX8_ruleAnew 10 = .ok (.iload_n 3, 1) := by decide +kernel
theorem dX8_ruleAnew_11 : decode cX8_ruleAnew 11 = .ok (.iconst 0, 1) := by decide +kernel
theorem dX8_ruleAnew_12 : decode cX8_ruleAnew 12 = .ok (.ldc 129, 2) := by decide +kernel
theorem dX8_ruleAnew_14 : decode cX8_ruleAnew 14 = .ok (.invokestatic 65, 3) := by decide +kernel
theorem dX8_ruleAnew_17 : decode cX8_ruleAnew 17 = .ok (.invokestatic 69, 3) := by decide +kernel
theorem dX8_ruleAnew_20 : decode cX8_ruleAnew 20 = .ok (.iconst 0, 1) := by decide +kernel
theorem dX8_ruleAnew_21 : decode cX8_ruleAnew 21 = .ok (.istore 4, 2) := by decide +kernel
theorem dX8_ruleAnew_23 : decode cX8_ruleAnew 23 = .ok (.iload 4, 2) := by decide +kernel
theorem dX8_ruleAnew_25 : decode cX8_ruleAnew 25 = .ok (.aload_n 0, 1) := by decide +kernel
theorem dX8_ruleAnew_26 : decode cX8_ruleAnew 26 = .ok (.getfield 16, 3) := by decide +kernel
theorem dX8_ruleAnew_29 : decode cX8_ruleAnew 29 = .ok (.invokevirtual 88, 3) := by decide +kernel
theorem dX8_ruleAnew_32 : decode cX8_ruleAnew 32 = .ok (.if_icmp .ge 51, 3) := by decide +kernel
theorem dX8_ruleAnew_35 : decode cX8_ruleAnew 35 = .ok (.aload_n 0, 1) := by decide +kernel
theorem dX8_ruleAnew_36 : decode cX8_ruleAnew 36 = .ok (.getfield 16, 3) := by decide +kernel
theorem dX8_ruleAnew_39 : decode cX8_ruleAnew 39 = .ok (.iload 4, 2) := by decide +kernel
theorem dX8_ruleAnew_41 : decode cX8_ruleAnew 41 = .ok (.invokevirtual 122, 3) := by decide +kernel
theorem dX8_ruleAnew_44 : decode cX8_ruleAnew 44 = .ok (.checkcast 95, 3) := by decide +kernel
theorem dX8_ruleAnew_47 : decode cX8_ruleAnew 47 = .ok (.astore 5, 2) := by decide +kernel
theorem dX8_ruleAnew_49 : decode cX8_ruleAnew 49 = .ok (.aload 5, 2) := by decide +kernel
theorem dX8_ruleAnew_51 : decode cX8_ruleAnew 51 = .ok (.iload_n 1, 1) := by decide +kernel
theorem dX8_ruleAnew_52 : decode cX8_ruleAnew 52 = .ok (.iload_n 2, 1) := by decide +kernel
theorem dX8_ruleAnew_53 : decode cX8_ruleAnew 53 = .ok (.iload_n 3, 1) := by decide +kernel
theorem dX8_ruleAnew_54 : decode cX8_ruleAnew 54 = .ok (.invokevirtual 134, 3) := by decide +kernel
theorem dX8_ruleAnew_57 : decode cX8_ruleAnew 57 = .ok (.ifCond .eq 20, 3) := by decide +kernel
theorem dX8_ruleAnew_60 : decode cX8_ruleAnew 60 = .ok (.aload_n 0, 1) := by decide +kernel
theorem dX8_ruleAnew_61 : decode cX8_ruleAnew 61 = .ok (.aload 5, 2) := by decide +kernel
theorem dX8_ruleAnew_63 : decode cX8_ruleAnew 63 = .ok (.iload_n 2, 1) := by decide +kernel
theorem dX8_ruleAnew_64 : decode cX8_ruleAnew 64 = .ok (.iload_n 3, 1) := by decide +kernel
theorem dX8_ruleAnew_65 : decode cX8_ruleAnew 65 = .ok (.invokevirtual 137, 3) := by decide +kernel
theorem dX8_ruleAnew_68 : decode cX8_ruleAnew 68 = .ok (.ifCond .ne 9, 3) := by decide +kernel
theorem dX8_ruleAnew_71 : decode cX8_ruleAnew 71 = .ok (.aload 5, 2) := by decide +kernel
theorem dX8_ruleAnew_73 : decode cX8_ruleAnew 73 = .ok (.getfield 108, 3) := by decide +kernel
theorem dX8_ruleAnew_76 : decode cX8_ruleAnew 76 = .ok (.ireturn, 1) := by decide +kernel
theorem dX8_ruleAnew_77 : decode cX8_ruleAnew 77 = .ok (.iinc 4 1, 3) := by decide +kernel
theorem dX8_ruleAnew_80 : decode cX8_ruleAnew 80 = .ok (.goto (-57), 3) := by decide +kernel
theorem dX8_ruleAnew_83 : decode cX8_ruleAnew 83 = .ok (.iconst (-1), 1) := by decide +kernel
theorem dX8_ruleAnew_84 : decode cX8_ruleAnew 84 = .ok (.ireturn, 1) := by decide +kernel
theorem dX8_car_0 : decode cX8_car 0 = .ok (.iload_n 1, 1) := by decide +kernel
theorem dX8_car_1 : decode cX8_car 1 = .ok (.iconst 3, 1) := by decide +kernel
theorem dX8_car_2 : decode cX8_car 2 = .ok (.bipush 12, 2) := by decide +kernel
theorem dX8_car_4 : decode cX8_car 4 = .ok (.invokestatic 65, 3) := by decide +kernel
theorem dX8_car_7 : decode cX8_car 7 = .ok (.ifCond .eq 16, 3) := by decide +kernel
theorem dX8_car_10 : decode cX8_car 10 = .ok (.iload_n 2, 1) := by decide +kernel
theorem dX8_car_11 : decode cX8_car 11 = .ok (.iconst 0, 1) := by decide +kernel
theorem dX8_car_12 : decode cX8_car 12 = .ok (.iconst 4, 1) := by decide +kernel
theorem dX8_car_13 : decode cX8_car 13 = .ok (.invokestatic 65, 3) := by decide +kernel
theorem dX8_car_16 : decode cX8_car 16 = .ok (.ifCond .eq 7, 3) := by decide +kernel
theorem dX8_car_19 : decode cX8_car 19 = .ok (.iconst 1, 1) := by decide +kernel
theorem dX8_car_20 : decode cX8_car 20 = .ok (.goto 4, 3) := by decide +kernel
theorem dX8_car_23 : decode cX8_car 23 = .ok (.iconst 0, 1) := by decide +kernel
theorem dX8_car_24 : decode cX8_car 24 = .ok (.invokestatic 69, 3) := by decide +kernel
theorem dX8_car_27 : decode cX8_car 27 = .ok (.aload_n 0, 1) := by decide +kernel
theorem dX8_car_28 : decode cX8_car 28 = .ok (.getfield 19, 3) := by decide +kernel
theorem dX8_car_31 : decode cX8_car 31 = .ok (.invokevirtual 88, 3) := by decide +kernel
theorem dX8_car_34 : decode cX8_car 34 = .ok (.bipush 30, 2) := by decide +kernel
theorem dX8_car_36 : decode cX8_car 36 = .ok (.if_icmp .ge 7, 3) := by decide +kernel
theorem dX8_car_39 : decode cX8_car 39 = .ok (.iconst 1, 1) := by decide +kernel
theorem dX8_car_40 : decode cX8_car 40 = .ok (.goto 4, 3) := by decide +kernel
theorem dX8_car_43 : decode cX8_car 43 = .ok (.iconst 0, 1) := by decide +kernel
theorem dX8_car_44 : decode cX8_car 44 = .ok (.invokestatic 92, 3) := by decide +kernel
theorem dX8_car_47 : decode cX8_car 47 = .ok (.new 141, 3) := by decide +kernel
theorem dX8_car_50 : decode cX8_car 50 = .ok (.dup, 1) := by decide +kernel
theorem dX8_car_51 : decode cX8_car 51 = .ok (.aload_n 0, 1) := by decide +kernel
theorem dX8_car_52 : decode cX8_car 52 = .ok (.getfield 19, 3) := by decide +kernel
theorem dX8_car_55 : decode cX8_car 55 = .ok (.invokevirtual 88, 3) := by decide +kernel
theorem dX8_car_58 : decode cX8_car 58 = .ok (.iload_n 1, 1) := by decide +kernel
theorem dX8_car_59 : decode cX8_car 59 = .ok (.iload_n 2, 1) := by decide +kernel
theorem dX8_car_60 : decode cX8_car 60 = .ok (.invokespecial 143, 3) := by decide +kernel
theorem dX8_car_63 : decode cX8_car 63 = .ok (.astore_n 3, 1) := by decide +kernel
theorem dX8_car_64 : decode cX8_car 64 = .ok (.aload_n 0, 1) := by decide +kernel
theorem dX8_car_65 : decode cX8_car 65 = .ok (.getfield 19, 3) := by decide +kernel
theorem dX8_car_68 : decode cX8_car 68 = .ok (.aload_n 3, 1) := by decide +kernel
theorem dX8_car_69 : decode cX8_car 69 = .ok (.invokevirtual 45, 3) := by decide +kernel
theorem dX8_car_72 : decode cX8_car 72 = .ok (.pop, 1) := by decide +kernel
theorem dX8_car_73 : decode cX8_car 73 = .ok (.aload_n 3, 1) := by decide +kernel
theorem dX8_car_74 : decode cX8_car 74 = .ok (.getfield 145, 3) := by decide +kernel
theorem dX8_car_77 : decode cX8_car 77 = .ok (.ireturn, 1) := by decide +kernel
theorem dX8_permit_0 : decode cX8_permit 0 = .ok (.aload_n 0, 1) := by decide +kernel
theorem dX8_permit_1 : decode cX8_permit 1 = .ok (.iload_n 1, 1) := by decide +kernel
theorem dX8_permit_2 : decode cX8_permit 2 = .ok (.invokevirtual 146, 3) := by decide +kernel
theorem dX8_permit_5 : decode cX8_permit 5 = .ok (.astore 6, 2) := by decide +kernel
theorem dX8_permit_7 : decode cX8_permit 7 = .ok (.aload_n 0, 1) := by decide +kernel
theorem dX8_permit_8 : decode cX8_permit 8 = .ok (.iload_n 2, 1) := by decide +kernel
theorem dX8_permit_9 : decode cX8_permit 9 = .ok (.invokevirtual 49, 3) := by decide +kernel
theorem dX8_permit_12 : decode cX8_permit 12 = .ok (.pop, 1) := by decide +kernel
theorem dX8_permit_13 : decode cX8_permit 13 = .ok (.iload_n 3, 1) := by decide +kernel
theorem dX8_permit_14 : decode cX8_permit 14 = .ok (.bipush 10, 2) := by decide +kernel
theorem dX8_permit_16 : decode cX8_permit 16 = .ok (.invokestatic 111, 3) := by decide +kernel
theorem dX8_permit_19 : decode cX8_permit 19 = .ok (.ifCond .ne 13, 3) := by decide +kernel
theorem dX8_permit_22 : decode cX8_permit 22 = .ok (.new 115, 3) := by decide +kernel
theorem dX8_permit_25 : decode cX8_permit 25 = .ok (.dup, 1) := by decide +kernel
theorem dX8_permit_26 : decode cX8_permit 26 = .ok (.ldc 150, 2) := by decide +kernel
theorem dX8_permit_28 : decode cX8_permit 28 = .ok (.invokespecial 119, 3) := by decide +kernel
theorem dX8_permit_31 : decode cX8_permit 31 = .ok (.athrow, 1) := by decide +kernel
theorem dX8_permit_32 : decode cX8_permit 32 = .ok (.iload 4, 2) := by decide +kernel
theorem dX8_permit_34 : decode cX8_permit 34 = .ok (.iconst 0, 1) := by decide +kernel
theorem dX8_permit_35 : decode cX8_permit 35 = .ok (.sipush 520, 3) := by decide +kernel
theorem dX8_permit_38 : decode cX8_permit 38 = .ok (.invokestatic 65, 3) := by decide +kernel
theorem dX8_permit_41 : decode cX8_permit 41 = .ok (.ifCond .eq 20, 3) := by decide +kernel
theorem dX8_permit_44 : decode cX8_permit 44 = .ok (.iload 5, 2) := by decide +kernel
theorem dX8_permit_46 : decode cX8_permit 46 = .ok (.iload 4, 2) := by decide +kernel
theorem dX8_permit_48 : decode cX8_permit 48 = .ok (.sipush 520, 3) := by decide +kernel
theorem dX8_permit_51 : decode cX8_permit 51 = .ok (.invokestatic 65, 3) := by decide +kernel
theorem dX8_permit_54 : decode cX8_permit 54 = .ok (.ifCond .eq 7, 3) := by decide +kernel
theorem dX8_permit_57 : decode cX8_permit 57 = .ok (.iconst 1, 1) := by decide +kernel
theorem dX8_permit_58 : decode cX8_permit 58 = .ok (.goto 4, 3) := by decide +kernel
theorem dX8_permit_61 : decode cX8_permit 61 = .ok (.iconst 0, 1) := by decide +kernel
theorem dX8_permit_62 : decode cX8_permit 62 = .ok (.invokestatic 69, 3) := by decide +kernel
theorem dX8_permit_65 : decode cX8_permit 65 = .ok (.aload_n 0, 1) := by decide +kernel
theorem dX8_permit_66 : decode cX8_permit 66 = .ok (.getfield 22, 3) := by decide +kernel
theorem dX8_permit_69 : decode cX8_permit 69 = .ok (.invokevirtual 88, 3) := by decide +kernel
theorem dX8_permit_72 : decode cX8_permit 72 = .ok (.bipush 40, 2) := by decide +kernel
theorem dX8_permit_74 : decode cX8_permit 74 = .ok (.if_icmp .ge 19, 3) := by decide +kernel
theorem dX8_permit_77 : decode cX8_permit 77 = .ok (.aload_n 0, 1) := by decide +kernel
theorem dX8_permit_78 : decode cX8_permit 78 = .ok (.iload_n 3, 1) := by decide +kernel
theorem dX8_permit_79 : decode cX8_permit 79 = .ok (.iload 4, 2) := by decide +kernel
theorem dX8_permit_81 : decode cX8_permit 81 = .ok (.iload 5, 2) := by decide +kernel
theorem dX8_permit_83 : decode cX8_permit 83 = .ok (.invokevirtual 152, 3) := by decide +kernel
theorem dX8_permit_86 : decode cX8_permit 86 = .ok (.ifCond .ne 7, 3) := by decide +kernel
theorem dX8_permit_89 : decode cX8_permit 89 = .ok (.iconst 1, 1) := by decide +kernel
theorem dX8_permit_90 : decode cX8_permit 90 = .ok (.goto 4, 3) := by decide +kernel
theorem dX8_permit_93 : decode cX8_permit 93 = .ok (.iconst 0, 1) := by decide +kernel
theorem dX8_permit_94 : decode cX8_permit 94 = .ok (.invokestatic 92, 3) := by decide +kernel
theorem dX8_permit_97 : decode cX8_permit 97 = .ok (.aload_n 0, 1) := by decide +kernel
theorem dX8_permit_98 : decode cX8_permit 98 = .ok (.getfield 22, 3) := by decide +kernel
theorem dX8_permit_101 : decode cX8_permit 101 = .ok (.new 155, 3) := by decide +kernel
theorem dX8_permit_104 : decode cX8_permit 104 = .ok (.dup, 1) := by decide +kernel
theorem dX8_permit_105 : decode cX8_permit 105 = .ok (.aload 6, 2) := by decide +kernel
theorem dX8_permit_107 : decode cX8_permit 107 = .ok (.getfield 145, 3) := by decide +kernel
theorem dX8_permit_110 : decode cX8_permit 110 = .ok (.iload_n 2, 1) := by decide +kernel
theorem dX8_permit_111 : decode cX8_permit 111 = .ok (.iload_n 3, 1) := by decide +kernel
theorem dX8_permit_112 : decode cX8_permit 112 = .ok (.iload 4, 2) := by decide +kernel
theorem dX8_permit_114 : decode cX8_permit 114 = .ok (.iload 5, 2) := by decide +kernel
theorem dX8_permit_116 : decode cX8_permit 116 = .ok (.invokespecial 157, 3) := by decide +kernel
theorem dX8_permit_119 : decode cX8_permit 119 = .ok (.invokevirtual 45, 3) := by decide +kernel
theorem dX8_permit_122 : decode cX8_permit 122 = .ok (.pop, 1) := by decide +kernel
theorem dX8_permit_123 : decode cX8_permit 123 = .ok (.aload_n 0, 1) := by decide +kernel
theorem dX8_permit_124 : decode cX8_permit 124 = .ok (.getfield 22, 3) := by decide +kernel
theorem dX8_permit_127 : decode cX8_permit 127 = .ok (.invokevirtual 88, 3) := by decide +kernel
theorem dX8_permit_130 : decode cX8_permit 130 = .ok (.iconst 1, 1) := by decide +kernel
theorem dX8_permit_131 : decode cX8_permit 131 = .ok (.isub, 1) := by decide +kernel
theorem dX8_permit_132 : decode cX8_permit 132 = .ok (.ireturn, 1) := by decide +kernel
theorem dX8_hand_0 : decode cX8_hand 0 = .ok (.iload_n 1, 1) := by decide +kernel
theorem dX8_hand_1 : decode cX8_hand 1 = .ok (.aload_n 0, 1) := by decide +kernel
theorem dX8_hand_2 : decode cX8_hand 2 = .ok (.getfield 22, 3) := by decide +kernel
theorem dX8_hand_5 : decode cX8_hand 5 = .ok (.invokevirtual 88, 3) := by decide +kernel
theorem dX8_hand_8 : decode cX8_hand 8 = .ok (.invokestatic 111, 3) := by decide +kernel
theorem dX8_hand_11 : decode cX8_hand 11 = .ok (.ifCond .ne 13, 3) := by decide +kernel
theorem dX8_hand_14 : decode cX8_hand 14 = .ok (.new 115, 3) := by decide +kernel
theorem dX8_hand_17 : decode cX8_hand 17 = .ok (.dup, 1) := by decide +kernel
theorem dX8_hand_18 : decode cX8_hand 18 = .ok (.ldc 160, 2) := by decide +kernel
theorem dX8_hand_20 : decode cX8_hand 20 = .ok (.invokespecial 119, 3) := by decide +kernel
theorem dX8_hand_23 : decode cX8_hand 23 = .ok (.athrow, 1) := by decide +kernel
theorem dX8_hand_24 : decode cX8_hand 24 = .ok (.aload_n 0, 1) := by decide +kernel
theorem dX8_hand_25 : decode cX8_hand 25 = .ok (.getfield 22, 3) := by decide +kernel
theorem dX8_hand_28 : decode cX8_hand 28 = .ok (.iload_n 1, 1) := by decide +kernel
theorem dX8_hand_29 : decode cX8_hand 29 = .ok (.invokevirtual 122, 3) := by decide +kernel
theorem dX8_hand_32 : decode cX8_hand 32 = .ok (.checkcast 155, 3) := by decide +kernel
theorem dX8_hand_35 : decode cX8_hand 35 = .ok (.astore_n 3, 1) := by decide +kernel
theorem dX8_hand_36 : decode cX8_hand 36 = .ok (.aload_n 0, 1) := by decide +kernel
theorem dX8_hand_37 : decode cX8_hand 37 = .ok (.iload_n 2, 1) := by decide +kernel
theorem dX8_hand_38 : decode cX8_hand 38 = .ok (.invokevirtual 146, 3) := by decide +kernel
theorem dX8_hand_41 : decode cX8_hand 41 = .ok (.astore 4, 2) := by decide +kernel
theorem dX8_hand_43 : decode cX8_hand 43 = .ok (.aload_n 3, 1) := by decide +kernel
theorem dX8_hand_44 : decode cX8_hand 44 = .ok (.getfield 162, 3) := by decide +kernel
theorem dX8_hand_47 : decode cX8_hand 47 = .ok (.istore 5, 2) := by decide +kernel
theorem dX8_hand_49 : decode cX8_hand 49 = .ok (.aload_n 3, 1) := by decide +kernel
theorem dX8_hand_50 : decode cX8_hand 50 = .ok (.aload 4, 2) := by decide +kernel
theorem dX8_hand_52 : decode cX8_hand 52 = .ok (.getfield 145, 3) := by decide +kernel
theorem dX8_hand_55 : decode cX8_hand 55 = .ok (.putfield 162, 3) := by decide +kernel
theorem dX8_hand_58 : decode cX8_hand 58 = .ok (.iload 5, 2) := by decide +kernel
theorem dX8_hand_60 : decode cX8_hand 60 = .ok (.ireturn, 1) := by decide +kernel
theorem dX8_countsAs_0 : decode cX8_countsAs 0 = .ok (.aload_n 0, 1) := by decide +kernel
theorem dX8_countsAs_1 : decode cX8_countsAs 1 = .ok (.iload_n 1, 1) := by decide +kernel
theorem dX8_countsAs_2 : decode cX8_countsAs 2 = .ok (.invokevirtual 146, 3) := by decide +kernel
theorem dX8_countsAs_5 : decode cX8_countsAs 5 = .ok (.astore_n 3, 1) := by decide +kernel
theorem dX8_countsAs_6 : decode cX8_countsAs 6 = .ok (.aload_n 0, 1) := by decide +kernel
theorem dX8_countsAs_7 : decode cX8_countsAs 7 = .ok (.iload_n 2, 1) := by decide +kernel
theorem dX8_countsAs_8 : decode cX8_countsAs 8 = .ok (.invokevirtual 49, 3) := by decide +kernel
theorem dX8_countsAs_11 : decode cX8_countsAs 11 = .ok (.pop, 1) := by decide +kernel
theorem dX8_countsAs_12 : decode cX8_countsAs 12 = .ok (.aload_n 0, 1) := by decide +kernel
theorem dX8_countsAs_13 : decode cX8_countsAs 13 = .ok (.aload_n 3, 1) := by decide +kernel
theorem dX8_countsAs_14 : decode cX8_countsAs 14 = .ok (.iload_n 2, 1) := by decide +kernel
theorem dX8_countsAs_15 : decode cX8_countsAs 15 = .ok (.aload_n 0, 1) := by decide +kernel
theorem dX8_countsAs_16 : decode cX8_countsAs 16 = .ok (.getfield 38, 3) := by decide +kernel
theorem dX8_countsAs_19 : decode cX8_countsAs 19 = .ok (.invokevirtual 165, 3) := by decide +kernel
theorem dX8_countsAs_22 : decode cX8_countsAs 22 = .ok (.ireturn, 1) := by decide +kernel
theorem dX8_park_0 : decode cX8_park 0 = .ok (.aload_n 0, 1) := by decide +kernel
theorem dX8_park_1 : decode cX8_park 1 = .ok (.iload_n 1, 1) := by decide +kernel
theorem dX8_park_2 : decode cX8_park 2 = .ok (.invokevirtual 146, 3) := by decide +kernel
theorem dX8_park_5 : decode cX8_park 5 = .ok (.astore 4, 2) := by decide +kernel
theorem dX8_park_7 : decode cX8_park 7 = .ok (.aload_n 0, 1) := by decide +kernel
theorem dX8_park_8 : decode cX8_park 8 = .ok (.iload_n 2, 1) := by decide +kernel
theorem dX8_park_9 : decode cX8_park 9 = .ok (.invokevirtual 49, 3) := by decide +kernel
theorem dX8_park_12 : decode cX8_park 12 = .ok (.astore 5, 2) := by decide +kernel
theorem dX8_park_14 : decode cX8_park 14 = .ok (.iload_n 3, 1) := by decide +kernel
theorem dX8_park_15 : decode cX8_park 15 = .ok (.invokestatic 53, 3) := by decide +kernel
theorem dX8_park_18 : decode cX8_park 18 = .ok (.aload 4, 2) := by decide +kernel
theorem dX8_park_20 : decode cX8_park 20 = .ok (.getfield 169, 3) := by decide +kernel
theorem dX8_park_23 : decode cX8_park 23 = .ok (.ifnonnull 21, 3) := by decide +kernel
theorem dX8_park_26 : decode cX8_park 26 = .ok (.aload_n 0, 1) := by decide +kernel
theorem dX8_park_27 : decode cX8_park 27 = .ok (.iload_n 2, 1) := by decide +kernel
theorem dX8_park_28 : decode cX8_park 28 = .ok (.iload_n 3, 1) := by decide +kernel
theorem dX8_park_29 : decode cX8_park 29 = .ok (.aload 4, 2) := by decide +kernel
theorem dX8_park_31 : decode cX8_park 31 = .ok (.getfield 173, 3) := by decide +kernel
theorem dX8_park_34 : decode cX8_park 34 = .ok (.invokevirtual 176, 3) := by decide +kernel
theorem dX8_park_37 : decode cX8_park 37 = .ok (.ifCond .eq 7, 3) := by decide +kernel
theorem dX8_park_40 : decode cX8_park 40 = .ok (.iconst 1, 1) := by decide +kernel
theorem dX8_park_41 : decode cX8_park 41 = .ok (.goto 4, 3) := by decide +kernel
theorem dX8_park_44 : decode cX8_park 44 = .ok (.iconst 0, 1) := by decide +kernel
theorem dX8_park_45 : decode cX8_park 45 = .ok (.invokestatic 92, 3) := by decide +kernel
theorem dX8_park_48 : decode cX8_park 48 = .ok (.aload 4, 2) := by decide +kernel
theorem dX8_park_50 : decode cX8_park 50 = .ok (.new 179, 3) := by decide +kernel
theorem dX8_park_53 : decode cX8_park 53 = .ok (.dup, 1) := by decide +kernel
theorem dX8_park_54 : decode cX8_park 54 = .ok (.aload 4, 2) := by decide +kernel
theorem dX8_park_56 : decode cX8_park 56 = .ok (.iload_n 2, 1) := by decide +kernel
theorem dX8_park_57 : decode cX8_park 57 = .ok (.iload_n 3, 1) := by decide +kernel
theorem dX8_park_58 : decode cX8_park 58 = .ok (.aload_n 0, 1) := by decide +kernel
theorem dX8_park_59 : decode cX8_park 59 = .ok (.getfield 38, 3) := by decide +kernel
theorem dX8_park_62 : decode cX8_park 62 = .ok (.invokespecial 181, 3) := by decide +kernel
theorem dX8_park_65 : decode cX8_park 65 = .ok (.putfield 169, 3) := by decide +kernel
theorem dX8_park_68 : decode cX8_park 68 = .ok (.aload 5, 2) := by decide +kernel
theorem dX8_park_70 : decode cX8_park 70 = .ok (.dup, 1) := by decide +kernel
theorem dX8_park_71 : decode cX8_park 71 = .ok (.getfield 184, 3) := by decide +kernel
theorem dX8_park_74 : decode cX8_park 74 = .ok (.aload 4, 2) := by decide +kernel
theorem dX8_park_76 : decode cX8_park 76 = .ok (.getfield 173, 3) := by decide +kernel
theorem dX8_park_79 : decode cX8_park 79 = .ok (.iadd, 1) := by decide +kernel
theorem dX8_park_80 : decode cX8_park 80 = .ok (.putfield 184, 3) := by decide +kernel
theorem dX8_park_83 : decode cX8_park 83 = .ok (.return_, 1) := by decide +kernel
theorem dX8_leave_0 : decode cX8_leave 0 = .ok (.aload_n 0, 1) := by decide +kernel
theorem dX8_leave_1 : decode cX8_leave 1 = .ok (.iload_n 1, 1) := by decide +kernel
theorem dX8_leave_2 : decode cX8_leave 2 = .ok (.invokevirtual 146, 3) := by decide +kernel
theorem dX8_leave_5 : decode cX8_leave 5 = .ok (.astore_n 2, 1) := by decide +kernel
theorem dX8_leave_6 : decode cX8_leave 6 = .ok (.aload_n 2, 1) := by decide +kernel
theorem dX8_leave_7 : decode cX8_leave 7 = .ok (.getfield 169, 3) := by decide +kernel
theorem dX8_leave_10 : decode cX8_leave 10 = .ok (.astore_n 3, 1) := by decide +kernel
theorem dX8_leave_11 : decode cX8_leave 11 = .ok (.aload_n 3, 1) := by decide +kernel
theorem dX8_leave_12 : decode cX8_leave 12 = .ok (.ifnonnull 13, 3) := by decide +kernel
theorem dX8_leave_15 : decode cX8_leave 15 = .ok (.new 187, 3) := by decide +kernel
theorem dX8_leave_18 : decode cX8_leave 18 = .ok (.dup, 1) := by decide +kernel
theorem dX8_leave_19 : decode cX8_leave 19 = .ok (.ldc 189, 2) := by decide +kernel
theorem dX8_leave_21 : decode cX8_leave 21 = .ok (.invokespecial 191, 3) := by decide +kernel
theorem dX8_leave_24 : decode cX8_leave 24 = .ok (.athrow, 1) := by decide +kernel
theorem dX8_leave_25 : decode cX8_leave 25 = .ok (.aload_n 0, 1) := by decide +kernel
theorem dX8_leave_26 : decode cX8_leave 26 = .ok (.aload_n 3, 1) := by decide +kernel
theorem dX8_leave_27 : decode cX8_leave 27 = .ok (.invokevirtual 192, 3) := by decide +kernel
theorem dX8_leave_30 : decode cX8_leave 30 = .ok (.aload_n 0, 1) := by decide +kernel
theorem dX8_leave_31 : decode cX8_leave 31 = .ok (.getfield 38, 3) := by decide +kernel
theorem dX8_leave_34 : decode cX8_leave 34 = .ok (.aload_n 3, 1) := by decide +kernel
theorem dX8_leave_35 : decode cX8_leave 35 = .ok (.getfield 196, 3) := by decide +kernel
theorem dX8_leave_38 : decode cX8_leave 38 = .ok (.isub, 1) := by decide +kernel
theorem dX8_leave_39 : decode cX8_leave 39 = .ok (.ireturn, 1) := by decide +kernel
theorem dX8_gap_0 : decode cX8_gap 0 = .ok (.aload_n 0, 1) := by decide +kernel
theorem dX8_gap_1 : decode cX8_gap 1 = .ok (.iload_n 1, 1) := by decide +kernel
theorem dX8_gap_2 : decode cX8_gap 2 = .ok (.invokevirtual 49, 3) := by decide +kernel
theorem dX8_gap_5 : decode cX8_gap 5 = .ok (.pop, 1) := by decide +kernel
theorem dX8_gap_6 : decode cX8_gap 6 = .ok (.iload_n 2, 1) := by decide +kernel
theorem dX8_gap_7 : decode cX8_gap 7 = .ok (.iconst 3, 1) := by decide +kernel
theorem dX8_gap_8 : decode cX8_gap 8 = .ok (.bipush 12, 2) := by decide +kernel
theorem dX8_gap_10 : decode cX8_gap 10 = .ok (.invokestatic 65, 3) := by decide +kernel
theorem dX8_gap_13 : decode cX8_gap 13 = .ok (.invokestatic 69, 3) := by decide +kernel
theorem dX8_gap_16 : decode cX8_gap 16 = .ok (.iconst 0, 1) := by decide +kernel
theorem dX8_gap_17 : decode cX8_gap 17 = .ok (.istore_n 3, 1) := by decide +kernel
theorem dX8_gap_18 : decode cX8_gap 18 = .ok (.iload_n 3, 1) := by decide +kernel
theorem dX8_gap_19 : decode cX8_gap 19 = .ok (.bipush 60, 2) := by decide +kernel
theorem dX8_gap_21 : decode cX8_gap 21 = .ok (.if_icmp .ge 21, 3) := by decide +kernel
theorem dX8_gap_24 : decode cX8_gap 24 = .ok (.aload_n 0, 1) := by decide +kernel
theorem dX8_gap_25 : decode cX8_gap 25 = .ok (.iload_n 1, 1) := by decide +kernel
theorem dX8_gap_26 : decode cX8_gap 26 = .ok (.iload_n 3, 1) := by decide +kernel
theorem dX8_gap_27 : decode cX8_gap 27 = .ok (.iload_n 2, 1) := by decide +kernel
theorem dX8_gap_28 : decode cX8_gap 28 = .ok (.invokevirtual 176, 3) := by decide +kernel
theorem dX8_gap_31 : decode cX8_gap 31 = .ok (.ifCond .eq 5, 3) := by decide +kernel
theorem dX8_gap_34 : decode cX8_gap 34 = .ok (.iload_n 3, 1) := by decide +kernel
theorem dX8_gap_35 : decode cX8_gap 35 = .ok (.ireturn, 1) := by decide +kernel
theorem dX8_gap_36 : decode cX8_gap 36 = .ok (.iinc 3 1, 3) := by decide +kernel
theorem dX8_gap_39 : decode cX8_gap 39 = .ok (.goto (-21), 3) := by decide +kernel
theorem dX8_gap_42 : decode cX8_gap 42 = .ok (.iconst (-1), 1) := by decide +kernel
theorem dX8_gap_43 : decode cX8_gap 43 = .ok (.ireturn, 1) := by decide +kernel
theorem dX8_pay_0 : decode cX8_pay 0 = .ok (.aload_n 0, 1) := by decide +kernel
theorem dX8_pay_1 : decode cX8_pay 1 = .ok (.iload_n 1, 1) := by decide +kernel
theorem dX8_pay_2 : decode cX8_pay 2 = .ok (.invokevirtual 146, 3) := by decide +kernel
theorem dX8_pay_5 : decode cX8_pay 5 = .ok (.astore 5, 2) := by decide +kernel
theorem dX8_pay_7 : decode cX8_pay 7 = .ok (.aload_n 0, 1) := by decide +kernel
theorem dX8_pay_8 : decode cX8_pay 8 = .ok (.iload_n 2, 1) := by decide +kernel
theorem dX8_pay_9 : decode cX8_pay 9 = .ok (.invokevirtual 49, 3) := by decide +kernel
theorem dX8_pay_12 : decode cX8_pay 12 = .ok (.astore 6, 2) := by decide +kernel
theorem dX8_pay_14 : decode cX8_pay 14 = .ok (.iload_n 3, 1) := by decide +kernel
theorem dX8_pay_15 : decode cX8_pay 15 = .ok (.iconst 0, 1) := by decide +kernel
theorem dX8_pay_16 : decode cX8_pay 16 = .ok (.aload_n 0, 1) := by decide +kernel
theorem dX8_pay_17 : decode cX8_pay 17 = .ok (.getfield 38, 3) := by decide +kernel
theorem dX8_pay_20 : decode cX8_pay 20 = .ok (.bipush 96, 2) := by decide +kernel
theorem dX8_pay_22 : decode cX8_pay 22 = .ok (.isub, 1) := by decide +kernel
theorem dX8_pay_23 : decode cX8_pay 23 = .ok (.invokestatic 199, 3) := by decide +kernel
theorem dX8_pay_26 : decode cX8_pay 26 = .ok (.aload_n 0, 1) := by decide +kernel
theorem dX8_pay_27 : decode cX8_pay 27 = .ok (.getfield 38, 3) := by decide +kernel
theorem dX8_pay_30 : decode cX8_pay 30 = .ok (.invokestatic 65, 3) := by decide +kernel
theorem dX8_pay_33 : decode cX8_pay 33 = .ok (.ifCond .eq 18, 3) := by decide +kernel
theorem dX8_pay_36 : decode cX8_pay 36 = .ok (.iload 4, 2) := by decide +kernel
theorem dX8_pay_38 : decode cX8_pay 38 = .ok (.iconst 1, 1) := by decide +kernel
theorem dX8_pay_39 : decode cX8_pay 39 = .ok (.bipush 96, 2) := by decide +kernel
theorem dX8_pay_41 : decode cX8_pay 41 = .ok (.invokestatic 65, 3) := by decide +kernel
theorem dX8_pay_44 : decode cX8_pay 44 = .ok (.ifCond .eq 7, 3) := by decide +kernel
theorem dX8_pay_47 : decode cX8_pay 47 = .ok (.iconst 1, 1) := by decide +kernel
theorem dX8_pay_48 : decode cX8_pay 48 = .ok (.goto 4, 3) := by decide +kernel
theorem dX8_pay_51 : decode cX8_pay 51 = .ok (.iconst 0, 1) := by decide +kernel
theorem dX8_pay_52 : decode cX8_pay 52 = .ok (.invokestatic 69, 3) := by decide +kernel
theorem dX8_pay_55 : decode cX8_pay 55 = .ok (.aload_n 0, 1) := by decide +kernel
theorem dX8_pay_56 : decode cX8_pay 56 = .ok (.getfield 25, 3) := by decide +kernel
theorem dX8_pay_59 : decode cX8_pay 59 = .ok (.invokevirtual 88, 3) := by decide +kernel
theorem dX8_pay_62 : decode cX8_pay 62 = .ok (.sipush 200, 3) := by decide +kernel
theorem dX8_pay_65 : decode cX8_pay 65 = .ok (.if_icmp .ge 7, 3) := by decide +kernel
theorem dX8_pay_68 : decode cX8_pay 68 = .ok (.iconst 1, 1) := by decide +kernel
theorem dX8_pay_69 : decode cX8_pay 69 = .ok (.goto 4, 3) := by decide +kernel
theorem dX8_pay_72 : decode cX8_pay 72 = .ok (.iconst 0, 1) := by decide +kernel
theorem dX8_pay_73 : decode cX8_pay 73 = .ok (.invokestatic 92, 3) := by decide +kernel
theorem dX8_pay_76 : decode cX8_pay 76 = .ok (.aload_n 0, 1) := by decide +kernel
theorem dX8_pay_77 : decode cX8_pay 77 = .ok (.getfield 25, 3) := by decide +kernel
theorem dX8_pay_80 : decode cX8_pay 80 = .ok (.new 205, 3) := by decide +kernel
theorem dX8_pay_83 : decode cX8_pay 83 = .ok (.dup, 1) := by decide +kernel
theorem dX8_pay_84 : decode cX8_pay 84 = .ok (.aload 5, 2) := by decide +kernel
theorem dX8_pay_86 : decode cX8_pay 86 = .ok (.getfield 145, 3) := by decide +kernel
theorem dX8_pay_89 : decode cX8_pay 89 = .ok (.iload_n 2, 1) := by decide +kernel
theorem dX8_pay_90 : decode cX8_pay 90 = .ok (.iload_n 3, 1) := by decide +kernel
theorem dX8_pay_91 : decode cX8_pay 91 = .ok (.iload 4, 2) := by decide +kernel
theorem dX8_pay_93 : decode cX8_pay 93 = .ok (.invokespecial 207, 3) := by decide +kernel
theorem dX8_pay_96 : decode cX8_pay 96 = .ok (.invokevirtual 45, 3) := by decide +kernel
theorem dX8_pay_99 : decode cX8_pay 99 = .ok (.pop, 1) := by decide +kernel
theorem dX8_pay_100 : decode cX8_pay 100 = .ok (.iload 4, 2) := by decide +kernel
theorem dX8_pay_102 : decode cX8_pay 102 = .ok (.aload 6, 2) := by decide +kernel
theorem dX8_pay_104 : decode cX8_pay 104 = .ok (.getfield 210, 3) := by decide +kernel
theorem dX8_pay_107 : decode cX8_pay 107 = .ok (.imul, 1) := by decide +kernel
theorem dX8_pay_108 : decode cX8_pay 108 = .ok (.istore 7, 2) := by decide +kernel
theorem dX8_pay_110 : decode cX8_pay 110 = .ok (.aload 6, 2) := by decide +kernel
theorem dX8_pay_112 : decode cX8_pay 112 = .ok (.dup, 1) := by decide +kernel
theorem dX8_pay_113 : decode cX8_pay 113 = .ok (.getfield 213, 3) := by decide +kernel
theorem dX8_pay_116 : decode cX8_pay 116 = .ok (.iload 7, 2) := by decide +kernel
theorem dX8_pay_118 : decode cX8_pay 118 = .ok (.iadd, 1) := by decide +kernel
theorem dX8_pay_119 : decode cX8_pay 119 = .ok (.putfield 213, 3) := by decide +kernel
theorem dX8_pay_122 : decode cX8_pay 122 = .ok (.iload 7, 2) := by decide +kernel
theorem dX8_pay_124 : decode cX8_pay 124 = .ok (.ireturn, 1) := by decide +kernel
theorem dX8_judge_0 : decode cX8_judge 0 = .ok (.aload_n 0, 1) := by decide +kernel
theorem dX8_judge_1 : decode cX8_judge 1 = .ok (.iload_n 1, 1) := by decide +kernel
theorem dX8_judge_2 : decode cX8_judge 2 = .ok (.invokevirtual 146, 3) := by decide +kernel
theorem dX8_judge_5 : decode cX8_judge 5 = .ok (.getfield 169, 3) := by decide +kernel
theorem dX8_judge_8 : decode cX8_judge 8 = .ok (.astore_n 2, 1) := by decide +kernel
theorem dX8_judge_9 : decode cX8_judge 9 = .ok (.aload_n 2, 1) := by decide +kernel
theorem dX8_judge_10 : decode cX8_judge 10 = .ok (.ifnonnull 7, 3) := by decide +kernel
theorem dX8_judge_13 : decode cX8_judge 13 = .ok (.iconst (-1), 1) := by decide +kernel
theorem dX8_judge_14 : decode cX8_judge 14 = .ok (.goto 17, 3) := by decide +kernel
theorem dX8_judge_17 : decode cX8_judge 17 = .ok (.aload_n 0, 1) := by decide +kernel
theorem dX8_judge_18 : decode cX8_judge 18 = .ok (.aload_n 2, 1) := by decide +kernel
theorem dX8_judge_19 : decode cX8_judge 19 = .ok (.aload_n 0, 1) := by decide +kernel
theorem dX8_judge_20 : decode cX8_judge 20 = .ok (.getfield 38, 3) := by decide +kernel
theorem dX8_judge_23 : decode cX8_judge 23 = .ok (.aload_n 0, 1) := by decide +kernel
theorem dX8_judge_24 : decode cX8_judge 24 = .ok (.aload_n 2, 1) := by decide +kernel
theorem dX8_judge_25 : decode cX8_judge 25 = .ok (.invokevirtual 216, 3) := by decide +kernel
theorem dX8_judge_28 : decode cX8_judge 28 = .ok (.invokevirtual 220, 3) := by decide +kernel
theorem dX8_judge_31 : decode cX8_judge 31 = .ok (.ireturn, 1) := by decide +kernel
theorem dX8_look_0 : decode cX8_look 0 = .ok (.aload_n 0, 1) := by decide +kernel
theorem dX8_look_1 : decode cX8_look 1 = .ok (.iload_n 1, 1) := by decide +kernel
theorem dX8_look_2 : decode cX8_look 2 = .ok (.invokevirtual 49, 3) := by decide +kernel
theorem dX8_look_5 : decode cX8_look 5 = .ok (.astore_n 2, 1) := by decide +kernel
theorem dX8_look_6 : decode cX8_look 6 = .ok (.aload_n 2, 1) := by decide +kernel
theorem dX8_look_7 : decode cX8_look 7 = .ok (.getfield 224, 3) := by decide +kernel
theorem dX8_look_10 : decode cX8_look 10 = .ok (.istore_n 3, 1) := by decide +kernel
theorem dX8_look_11 : decode cX8_look 11 = .ok (.iconst 0, 1) := by decide +kernel
theorem dX8_look_12 : decode cX8_look 12 = .ok (.istore 4, 2) := by decide +kernel
theorem dX8_look_14 : decode cX8_look 14 = .ok (.iload 4, 2) := by decide +kernel
theorem dX8_look_16 : decode cX8_look 16 = .ok (.aload_n 0, 1) := by decide +kernel
theorem dX8_look_17 : decode cX8_look 17 = .ok (.getfield 19, 3) := by decide +kernel
theorem dX8_look_20 : decode cX8_look 20 = .ok (.invokevirtual 88, 3) := by decide +kernel
theorem dX8_look_23 : decode cX8_look 23 = .ok (.if_icmp .ge 47, 3) := by decide +kernel
theorem dX8_look_26 : decode cX8_look 26 = .ok (.aload_n 0, 1) := by decide +kernel
theorem dX8_look_27 : decode cX8_look 27 = .ok (.getfield 19, 3) := by decide +kernel
theorem dX8_look_30 : decode cX8_look 30 = .ok (.iload 4, 2) := by decide +kernel
theorem dX8_look_32 : decode cX8_look 32 = .ok (.invokevirtual 122, 3) := by decide +kernel
theorem dX8_look_35 : decode cX8_look 35 = .ok (.checkcast 141, 3) := by decide +kernel
theorem dX8_look_38 : decode cX8_look 38 = .ok (.getfield 169, 3) := by decide +kernel
theorem dX8_look_41 : decode cX8_look 41 = .ok (.astore 5, 2) := by decide +kernel
theorem dX8_look_43 : decode cX8_look 43 = .ok (.aload 5, 2) := by decide +kernel
theorem dX8_look_45 : decode cX8_look 45 = .ok (.ifnull 19, 3) := by decide +kernel
theorem dX8_look_48 : decode cX8_look 48 = .ok (.aload 5, 2) := by decide +kernel
theorem dX8_look_50 : decode cX8_look 50 = .ok (.getfield 226, 3) := by decide +kernel
theorem dX8_look_53 : decode cX8_look 53 = .ok (.iload_n 1, 1) := by decide +kernel
theorem dX8_look_54 : decode cX8_look 54 = .ok (.if_icmp .ne 10, 3) := by decide +kernel
theorem dX8_look_57 : decode cX8_look 57 = .ok (.aload_n 0, 1) := by decide +kernel
theorem dX8_look_58 : decode cX8_look 58 = .ok (.aload 5, 2) := by decide +kernel
theorem dX8_look_60 : decode cX8_look 60 = .ok (.aload_n 2, 1) := by decide +kernel
theorem dX8_look_61 : decode cX8_look 61 = .ok (.invokevirtual 229, 3) := by decide +kernel
theorem dX8_look_64 : decode cX8_look 64 = .ok (.iinc 4 1, 3) := by decide +kernel
theorem dX8_look_67 : decode cX8_look 67 = .ok (.goto (-53), 3) := by decide +kernel
theorem dX8_look_70 : decode cX8_look 70 = .ok (.aload_n 2, 1) := by decide +kernel
theorem dX8_look_71 : decode cX8_look 71 = .ok (.getfield 224, 3) := by decide +kernel
theorem dX8_look_74 : decode cX8_look 74 = .ok (.iload_n 3, 1) := by decide +kernel
theorem dX8_look_75 : decode cX8_look 75 = .ok (.isub, 1) := by decide +kernel
theorem dX8_look_76 : decode cX8_look 76 = .ok (.ireturn, 1) := by decide +kernel
theorem dX8_appeal_0 : decode cX8_appeal 0 = .ok (.aload_n 0, 1) := by decide +kernel
theorem dX8_appeal_1 : decode cX8_appeal 1 = .ok (.iload_n 1, 1) := by decide +kernel
theorem dX8_appeal_2 : decode cX8_appeal 2 = .ok (.invokevirtual 233, 3) := by decide +kernel
theorem dX8_appeal_5 : decode cX8_appeal 5 = .ok (.astore_n 2, 1) := by decide +kernel
theorem dX8_appeal_6 : decode cX8_appeal 6 = .ok (.aload_n 2, 1) := by decide +kernel
theorem dX8_appeal_7 : decode cX8_appeal 7 = .ok (.getfield 237, 3) := by decide +kernel
theorem dX8_appeal_10 : decode cX8_appeal 10 = .ok (.ifCond .ne 14, 3) := by decide +kernel
theorem dX8_appeal_13 : decode cX8_appeal 13 = .ok (.aload_n 2, 1) := by decide +kernel
theorem dX8_appeal_14 : decode cX8_appeal 14 = .ok (.getfield 243, 3) := by decide +kernel
theorem dX8_appeal_17 : decode cX8_appeal 17 = .ok (.ifCond .ne 7, 3) := by decide +kernel
theorem dX8_appeal_20 : decode cX8_appeal 20 = .ok (.iconst 1, 1) := by decide +kernel
theorem dX8_appeal_21 : decode cX8_appeal 21 = .ok (.goto 4, 3) := by decide +kernel
theorem dX8_appeal_24 : decode cX8_appeal 24 = .ok (.iconst 0, 1) := by decide +kernel
theorem dX8_appeal_25 : decode cX8_appeal 25 = .ok (.invokestatic 92, 3) := by decide +kernel
theorem dX8_appeal_28 : decode cX8_appeal 28 = .ok (.aload_n 2, 1) := by decide +kernel
theorem dX8_appeal_29 : decode cX8_appeal 29 = .ok (.getfield 246, 3) := by decide +kernel
theorem dX8_appeal_32 : decode cX8_appeal 32 = .ok (.iconst 1, 1) := by decide +kernel
theorem dX8_appeal_33 : decode cX8_appeal 33 = .ok (.if_icmp .ne 7, 3) := by decide +kernel
theorem dX8_appeal_36 : decode cX8_appeal 36 = .ok (.iconst 1, 1) := by decide +kernel
theorem dX8_appeal_37 : decode cX8_appeal 37 = .ok (.goto 4, 3) := by decide +kernel
theorem dX8_appeal_40 : decode cX8_appeal 40 = .ok (.iconst 0, 1) := by decide +kernel
theorem dX8_appeal_41 : decode cX8_appeal 41 = .ok (.istore_n 3, 1) := by decide +kernel
theorem dX8_appeal_42 : decode cX8_appeal 42 = .ok (.aload_n 2, 1) := by decide +kernel
theorem dX8_appeal_43 : decode cX8_appeal 43 = .ok (.iconst 1, 1) := by decide +kernel
theorem dX8_appeal_44 : decode cX8_appeal 44 = .ok (.putfield 237, 3) := by decide +kernel
theorem dX8_appeal_47 : decode cX8_appeal 47 = .ok (.aload_n 2, 1) := by decide +kernel
theorem dX8_appeal_48 : decode cX8_appeal 48 = .ok (.aload_n 0, 1) := by decide +kernel
theorem dX8_appeal_49 : decode cX8_appeal 49 = .ok (.aload_n 2, 1) := by decide +kernel
theorem dX8_appeal_50 : decode cX8_appeal 50 = .ok (.getfield 249, 3) := by decide +kernel
theorem dX8_appeal_53 : decode cX8_appeal 53 = .ok (.aload_n 2, 1) := by decide +kernel
theorem dX8_appeal_54 : decode cX8_appeal 54 = .ok (.getfield 250, 3) := by decide +kernel
theorem dX8_appeal_57 : decode cX8_appeal 57 = .ok (.iload_n 3, 1) := by decide +kernel
theorem dX8_appeal_58 : decode cX8_appeal 58 = .ok (.invokevirtual 220, 3) := by decide +kernel
theorem dX8_appeal_61 : decode cX8_appeal 61 = .ok (.ifCond .ne 7, 3) := by decide +kernel
theorem dX8_appeal_64 : decode cX8_appeal 64 = .ok (.iconst 1, 1) := by decide +kernel
theorem dX8_appeal_65 : decode cX8_appeal 65 = .ok (.goto 4, 3) := by decide +kernel
theorem dX8_appeal_68 : decode cX8_appeal 68 = .ok (.iconst 0, 1) := by decide +kernel
theorem dX8_appeal_69 : decode cX8_appeal 69 = .ok (.putfield 253, 3) := by decide +kernel
theorem dX8_appeal_72 : decode cX8_appeal 72 = .ok (.aload_n 2, 1) := by decide +kernel
theorem dX8_appeal_73 : decode cX8_appeal 73 = .ok (.getfield 253, 3) := by decide +kernel
theorem dX8_appeal_76 : decode cX8_appeal 76 = .ok (.ireturn, 1) := by decide +kernel
theorem dX8_payFine_0 : decode cX8_payFine 0 = .ok (.aload_n 0, 1) := by decide +kernel
theorem dX8_payFine_1 : decode cX8_payFine 1 = .ok (.iload_n 1, 1) := by decide +kernel
theorem dX8_payFine_2 : decode cX8_payFine 2 = .ok (.invokevirtual 233, 3) := by decide +kernel
theorem dX8_payFine_5 : decode cX8_payFine 5 = .ok (.astore_n 2, 1) := by decide +kernel
theorem dX8_payFine_6 : decode cX8_payFine 6 = .ok (.aload_n 2, 1) := by decide +kernel
theorem dX8_payFine_7 : decode cX8_payFine 7 = .ok (.invokevirtual 256, 3) := by decide +kernel
theorem dX8_payFine_10 : decode cX8_payFine 10 = .ok (.invokestatic 92, 3) := by decide +kernel
theorem dX8_payFine_13 : decode cX8_payFine 13 = .ok (.aload_n 2, 1) := by decide +kernel
theorem dX8_payFine_14 : decode cX8_payFine 14 = .ok (.iconst 1, 1) := by decide +kernel
theorem dX8_payFine_15 : decode cX8_payFine 15 = .ok (.putfield 243, 3) := by decide +kernel
theorem dX8_payFine_18 : decode cX8_payFine 18 = .ok (.aload_n 2, 1) := by decide +kernel
theorem dX8_payFine_19 : decode cX8_payFine 19 = .ok (.invokevirtual 260, 3) := by decide +kernel
theorem dX8_payFine_22 : decode cX8_payFine 22 = .ok (.ireturn, 1) := by decide +kernel
theorem dX8_fine_0 : decode cX8_fine 0 = .ok (.aload_n 0, 1) := by decide +kernel
theorem dX8_fine_1 : decode cX8_fine 1 = .ok (.iload_n 1, 1) := by decide +kernel
theorem dX8_fine_2 : decode cX8_fine 2 = .ok (.invokevirtual 233, 3) := by decide +kernel
theorem dX8_fine_5 : decode cX8_fine 5 = .ok (.astore_n 3, 1) := by decide +kernel
theorem dX8_fine_6 : decode cX8_fine 6 = .ok (.iload_n 2, 1) := by decide +kernel
theorem dX8_fine_7 : decode cX8_fine 7 = .ok (.tableswitch 92 0 5 #[37, 48, 56, 61, 66, 79], 37) := by decide +kernel
theorem dX8_fine_44 : decode cX8_fine 44 = .ok (.aload_n 3, 1) := by decide +kernel
theorem dX8_fine_45 : decode cX8_fine 45 = .ok (.getfield 249, 3) := by decide +kernel
theorem dX8_fine_48 : decode cX8_fine 48 = .ok (.getfield 263, 3) := by decide +kernel
theorem dX8_fine_51 : decode cX8_fine 51 = .ok (.getfield 145, 3) := by decide +kernel
theorem dX8_fine_54 : decode cX8_fine 54 = .ok (.ireturn, 1) := by decide +kernel
theorem dX8_fine_55 : decode cX8_fine 55 = .ok (.aload_n 3, 1) := by decide +kernel
theorem dX8_fine_56 : decode cX8_fine 56 = .ok (.getfield 249, 3) := by decide +kernel
theorem dX8_fine_59 : decode cX8_fine 59 = .ok (.getfield 226, 3) := by decide +kernel
theorem dX8_fine_62 : decode cX8_fine 62 = .ok (.ireturn, 1) := by decide +kernel
theorem dX8_fine_63 : decode cX8_fine 63 = .ok (.aload_n 3, 1) := by decide +kernel
theorem dX8_fine_64 : decode cX8_fine 64 = .ok (.getfield 250, 3) := by decide +kernel
theorem dX8_fine_67 : decode cX8_fine 67 = .ok (.ireturn, 1) := by decide +kernel
theorem dX8_fine_68 : decode cX8_fine 68 = .ok (.aload_n 3, 1) := by decide +kernel
theorem dX8_fine_69 : decode cX8_fine 69 = .ok (.getfield 246, 3) := by decide +kernel
theorem dX8_fine_72 : decode cX8_fine 72 = .ok (.ireturn, 1) := by decide +kernel
theorem dX8_fine_73 : decode cX8_fine 73 = .ok (.aload_n 3, 1) := by decide +kernel
theorem dX8_fine_74 : decode cX8_fine 74 = .ok (.getfield 253, 3) := by decide +kernel
theorem dX8_fine_77 : decode cX8_fine 77 = .ok (.ifCond .eq 7, 3) := by decide +kernel
theorem dX8_fine_80 : decode cX8_fine 80 = .ok (.iconst 1, 1) := by decide +kernel
theorem dX8_fine_81 : decode cX8_fine 81 = .ok (.goto 4, 3) := by decide +kernel
theorem dX8_fine_84 : decode cX8_fine 84 = .ok (.iconst 0, 1) := by decide +kernel
theorem dX8_fine_85 : decode cX8_fine 85 = .ok (.ireturn, 1) := by decide +kernel
theorem dX8_fine_86 : decode cX8_fine 86 = .ok (.aload_n 3, 1) := by decide +kernel
theorem dX8_fine_87 : decode cX8_fine 87 = .ok (.getfield 243, 3) := by decide +kernel
theorem dX8_fine_90 : decode cX8_fine 90 = .ok (.ifCond .eq 7, 3) := by decide +kernel
theorem dX8_fine_93 : decode cX8_fine 93 = .ok (.iconst 1, 1) := by decide +kernel
theorem dX8_fine_94 : decode cX8_fine 94 = .ok (.goto 4, 3) := by decide +kernel
theorem dX8_fine_97 : decode cX8_fine 97 = .ok (.iconst 0, 1) := by decide +kernel
theorem dX8_fine_98 : decode cX8_fine 98 = .ok (.ireturn, 1) := by decide +kernel
theorem dX8_fine_99 : decode cX8_fine 99 = .ok (.new 266, 3) := by decide +kernel
theorem dX8_fine_102 : decode cX8_fine 102 = .ok (.dup, 1) := by decide +kernel
theorem dX8_fine_103 : decode cX8_fine 103 = .ok (.ldc_w 268, 3) := by decide +kernel
theorem dX8_fine_106 : decode cX8_fine 106 = .ok (.invokespecial 270, 3) := by decide +kernel
theorem dX8_fine_109 : decode cX8_fine 109 = .ok (.athrow, 1) := by decide +kernel
theorem dX8_debt_0 : decode cX8_debt 0 = .ok (.aload_n 0, 1) := by decide +kernel
theorem dX8_debt_1 : decode cX8_debt 1 = .ok (.aload_n 0, 1) := by decide +kernel
theorem dX8_debt_2 : decode cX8_debt 2 = .ok (.iload_n 1, 1) := by decide +kernel
theorem dX8_debt_3 : decode cX8_debt 3 = .ok (.invokevirtual 146, 3) := by decide +kernel
theorem dX8_debt_6 : decode cX8_debt 6 = .ok (.invokevirtual 271, 3) := by decide +kernel
theorem dX8_debt_9 : decode cX8_debt 9 = .ok (.ireturn, 1) := by decide +kernel
theorem dX8_tow_0 : decode cX8_tow 0 = .ok (.aload_n 0, 1) := by decide +kernel
theorem dX8_tow_1 : decode cX8_tow 1 = .ok (.iload_n 1, 1) := by decide +kernel
theorem dX8_tow_2 : decode cX8_tow 2 = .ok (.invokevirtual 146, 3) := by decide +kernel
theorem dX8_tow_5 : decode cX8_tow 5 = .ok (.astore_n 2, 1) := by decide +kernel
theorem dX8_tow_6 : decode cX8_tow 6 = .ok (.aload_n 2, 1) := by decide +kernel
theorem dX8_tow_7 : decode cX8_tow 7 = .ok (.getfield 169, 3) := by decide +kernel
theorem dX8_tow_10 : decode cX8_tow 10 = .ok (.astore_n 3, 1) := by decide +kernel
theorem dX8_tow_11 : decode cX8_tow 11 = .ok (.aload_n 0, 1) := by decide +kernel
theorem dX8_tow_12 : decode cX8_tow 12 = .ok (.aload_n 2, 1) := by decide +kernel
theorem dX8_tow_13 : decode cX8_tow 13 = .ok (.invokevirtual 271, 3) := by decide +kernel
theorem dX8_tow_16 : decode cX8_tow 16 = .ok (.istore 4, 2) := by decide +kernel
theorem dX8_tow_18 : decode cX8_tow 18 = .ok (.aload_n 3, 1) := by decide +kernel
theorem dX8_tow_19 : decode cX8_tow 19 = .ok (.ifnull 11, 3) := by decide +kernel
theorem dX8_tow_22 : decode cX8_tow 22 = .ok (.iload 4, 2) := by decide +kernel
theorem dX8_tow_24 : decode cX8_tow 24 = .ok (.sipush 200, 3) := by decide +kernel
theorem dX8_tow_27 : decode cX8_tow 27 = .ok (.if_icmp .ge 14, 3) := by decide +kernel
theorem dX8_tow_30 : decode cX8_tow 30 = .ok (.new 187, 3) := by decide +kernel
theorem dX8_tow_33 : decode cX8_tow 33 = .ok (.dup, 1) := by decide +kernel
theorem dX8_tow_34 : decode cX8_tow 34 = .ok (.ldc_w 275, 3) := by decide +kernel
theorem dX8_tow_37 : decode cX8_tow 37 = .ok (.invokespecial 191, 3) := by decide +kernel
theorem dX8_tow_40 : decode cX8_tow 40 = .ok (.athrow, 1) := by decide +kernel
theorem dX8_tow_41 : decode cX8_tow 41 = .ok (.aload_n 0, 1) := by decide +kernel
theorem dX8_tow_42 : decode cX8_tow 42 = .ok (.aload_n 3, 1) := by decide +kernel
theorem dX8_tow_43 : decode cX8_tow 43 = .ok (.invokevirtual 192, 3) := by decide +kernel
theorem dX8_tow_46 : decode cX8_tow 46 = .ok (.iload 4, 2) := by decide +kernel
theorem dX8_tow_48 : decode cX8_tow 48 = .ok (.ireturn, 1) := by decide +kernel
theorem dX8_streetIs_0 : decode cX8_streetIs 0 = .ok (.aload_n 0, 1) := by decide +kernel
theorem dX8_streetIs_1 : decode cX8_streetIs 1 = .ok (.iload_n 1, 1) := by decide +kernel
theorem dX8_streetIs_2 : decode cX8_streetIs 2 = .ok (.invokevirtual 49, 3) := by decide +kernel
theorem dX8_streetIs_5 : decode cX8_streetIs 5 = .ok (.astore_n 3, 1) := by decide +kernel
theorem dX8_streetIs_6 : decode cX8_streetIs 6 = .ok (.iload_n 2, 1) := by decide +kernel
theorem dX8_streetIs_7 : decode cX8_streetIs 7 = .ok (.tableswitch 58 0 4 #[33, 38, 43, 48, 53], 33) := by decide +kernel
theorem dX8_streetIs_40 : decode cX8_streetIs 40 = .ok (.aload_n 3, 1) := by decide +kernel
theorem dX8_streetIs_41 : decode cX8_streetIs 41 = .ok (.getfield 210, 3) := by decide +kernel
theorem dX8_streetIs_44 : decode cX8_streetIs 44 = .ok (.ireturn, 1) := by decide +kernel
theorem dX8_streetIs_45 : decode cX8_streetIs 45 = .ok (.aload_n 3, 1) := by decide +kernel
theorem dX8_streetIs_46 : decode cX8_streetIs 46 = .ok (.getfield 184, 3) := by decide +kernel
theorem dX8_streetIs_49 : decode cX8_streetIs 49 = .ok (.ireturn, 1) := by decide +kernel
theorem dX8_streetIs_50 : decode cX8_streetIs 50 = .ok (.aload_n 3, 1) := by decide +kernel
theorem dX8_streetIs_51 : decode cX8_streetIs 51 = .ok (.getfield 213, 3) := by decide +kernel
theorem dX8_streetIs_54 : decode cX8_streetIs 54 = .ok (.ireturn, 1) := by decide +kernel
theorem dX8_streetIs_55 : decode cX8_streetIs 55 = .ok (.aload_n 3, 1) := by decide +kernel
theorem dX8_streetIs_56 : decode cX8_streetIs 56 = .ok (.getfield 224, 3) := by decide +kernel
theorem dX8_streetIs_59 : decode cX8_streetIs 59 = .ok (.ireturn, 1) := by decide +kernel
theorem dX8_streetIs_60 : decode cX8_streetIs 60 = .ok (.aload_n 3, 1) := by decide +kernel
theorem dX8_streetIs_61 : decode cX8_streetIs 61 = .ok (.getfield 277, 3) := by decide +kernel
theorem dX8_streetIs_64 : decode cX8_streetIs 64 = .ok (.ireturn, 1) := by decide +kernel
theorem dX8_streetIs_65 : decode cX8_streetIs 65 = .ok (.new 266, 3) := by decide +kernel
theorem dX8_streetIs_68 : decode cX8_streetIs 68 = .ok (.dup, 1) := by decide +kernel
theorem dX8_streetIs_69 : decode cX8_streetIs 69 = .ok (.ldc_w 280, 3) := by decide +kernel
theorem dX8_streetIs_72 : decode cX8_streetIs 72 = .ok (.invokespecial 270, 3) := by decide +kernel
theorem dX8_streetIs_75 : decode cX8_streetIs 75 = .ok (.athrow, 1) := by decide +kernel
theorem dX8_pass_0 : decode cX8_pass 0 = .ok (.iload_n 1, 1) := by decide +kernel
theorem dX8_pass_1 : decode cX8_pass 1 = .ok (.iconst 1, 1) := by decide +kernel
theorem dX8_pass_2 : decode cX8_pass 2 = .ok (.bipush 96, 2) := by decide +kernel
theorem dX8_pass_4 : decode cX8_pass 4 = .ok (.invokestatic 65, 3) := by decide +kernel
theorem dX8_pass_7 : decode cX8_pass 7 = .ok (.invokestatic 69, 3) := by decide +kernel
theorem dX8_pass_10 : decode cX8_pass 10 = .ok (.aload_n 0, 1) := by decide +kernel
theorem dX8_pass_11 : decode cX8_pass 11 = .ok (.getfield 38, 3) := by decide +kernel
theorem dX8_pass_14 : decode cX8_pass 14 = .ok (.iload_n 1, 1) := by decide +kernel
theorem dX8_pass_15 : decode cX8_pass 15 = .ok (.iadd, 1) := by decide +kernel
theorem dX8_pass_16 : decode cX8_pass 16 = .ok (.ldc 129, 2) := by decide +kernel
theorem dX8_pass_18 : decode cX8_pass 18 = .ok (.if_icmp .gt 7, 3) := by decide +kernel
theorem dX8_pass_21 : decode cX8_pass 21 = .ok (.iconst 1, 1) := by decide +kernel
theorem dX8_pass_22 : decode cX8_pass 22 = .ok (.goto 4, 3) := by decide +kernel
theorem dX8_pass_25 : decode cX8_pass 25 = .ok (.iconst 0, 1) := by decide +kernel
theorem dX8_pass_26 : decode cX8_pass 26 = .ok (.invokestatic 92, 3) := by decide +kernel
theorem dX8_pass_29 : decode cX8_pass 29 = .ok (.iconst 0, 1) := by decide +kernel
theorem dX8_pass_30 : decode cX8_pass 30 = .ok (.istore_n 2, 1) := by decide +kernel
theorem dX8_pass_31 : decode cX8_pass 31 = .ok (.iload_n 2, 1) := by decide +kernel
theorem dX8_pass_32 : decode cX8_pass 32 = .ok (.iload_n 1, 1) := by decide +kernel
theorem dX8_pass_33 : decode cX8_pass 33 = .ok (.if_icmp .ge 13, 3) := by decide +kernel
theorem dX8_pass_36 : decode cX8_pass 36 = .ok (.aload_n 0, 1) := by decide +kernel
theorem dX8_pass_37 : decode cX8_pass 37 = .ok (.invokevirtual 282, 3) := by decide +kernel
theorem dX8_pass_40 : decode cX8_pass 40 = .ok (.iinc 2 1, 3) := by decide +kernel
theorem dX8_pass_43 : decode cX8_pass 43 = .ok (.goto (-12), 3) := by decide +kernel
theorem dX8_pass_46 : decode cX8_pass 46 = .ok (.aload_n 0, 1) := by decide +kernel
theorem dX8_pass_47 : decode cX8_pass 47 = .ok (.getfield 38, 3) := by decide +kernel
theorem dX8_pass_50 : decode cX8_pass 50 = .ok (.ireturn, 1) := by decide +kernel
theorem dX8_isIn_0 : decode cX8_isIn 0 = .ok (.iload_n 0, 1) := by decide +kernel
theorem dX8_isIn_1 : decode cX8_isIn 1 = .ok (.iload_n 1, 1) := by decide +kernel
theorem dX8_isIn_2 : decode cX8_isIn 2 = .ok (.if_icmp .lt 12, 3) := by decide +kernel
theorem dX8_isIn_5 : decode cX8_isIn 5 = .ok (.iload_n 0, 1) := by decide +kernel
theorem dX8_isIn_6 : decode cX8_isIn 6 = .ok (.iload_n 2, 1) := by decide +kernel
theorem dX8_isIn_7 : decode cX8_isIn 7 = .ok (.if_icmp .gt 7, 3) := by decide +kernel
theorem dX8_isIn_10 : decode cX8_isIn 10 = .ok (.iconst 1, 1) := by decide +kernel
theorem dX8_isIn_11 : decode cX8_isIn 11 = .ok (.goto 4, 3) := by decide +kernel
theorem dX8_isIn_14 : decode cX8_isIn 14 = .ok (.iconst 0, 1) := by decide +kernel
theorem dX8_isIn_15 : decode cX8_isIn 15 = .ok (.ireturn, 1) := by decide +kernel
theorem dX8_isIndex_0 : decode cX8_isIndex 0 = .ok (.iload_n 0, 1) := by decide +kernel
theorem dX8_isIndex_1 : decode cX8_isIndex 1 = .ok (.ifCond .lt 12, 3) := by decide +kernel
theorem dX8_isIndex_4 : decode cX8_isIndex 4 = .ok (.iload_n 0, 1) := by decide +kernel
theorem dX8_isIndex_5 : decode cX8_isIndex 5 = .ok (.iload_n 1, 1) := by decide +kernel
theorem dX8_isIndex_6 : decode cX8_isIndex 6 = .ok (.if_icmp .ge 7, 3) := by decide +kernel
theorem dX8_isIndex_9 : decode cX8_isIndex 9 = .ok (.iconst 1, 1) := by decide +kernel
theorem dX8_isIndex_10 : decode cX8_isIndex 10 = .ok (.goto 4, 3) := by decide +kernel
theorem dX8_isIndex_13 : decode cX8_isIndex 13 = .ok (.iconst 0, 1) := by decide +kernel
theorem dX8_isIndex_14 : decode cX8_isIndex 14 = .ok (.ireturn, 1) := by decide +kernel
theorem dX8_need_0 : decode cX8_need 0 = .ok (.iload_n 0, 1) := by decide +kernel
theorem dX8_need_1 : decode cX8_need 1 = .ok (.ifCond .ne 14, 3) := by decide +kernel
theorem dX8_need_4 : decode cX8_need 4 = .ok (.new 266, 3) := by decide +kernel
theorem dX8_need_7 : decode cX8_need 7 = .ok (.dup, 1) := by decide +kernel
theorem dX8_need_8 : decode cX8_need 8 = .ok (.ldc_w 285, 3) := by decide +kernel
theorem dX8_need_11 : decode cX8_need 11 = .ok (.invokespecial 270, 3) := by decide +kernel
theorem dX8_need_14 : decode cX8_need 14 = .ok (.athrow, 1) := by decide +kernel
theorem dX8_need_15 : decode cX8_need 15 = .ok (.return_, 1) := by decide +kernel
theorem dX8_needState_0 : decode cX8_needState 0 = .ok (.iload_n 0, 1) := by decide +kernel
theorem dX8_needState_1 : decode cX8_needState 1 = .ok (.ifCond .ne 14, 3) := by decide +kernel
theorem dX8_needState_4 : decode cX8_needState 4 = .ok (.new 187, 3) := by decide +kernel
theorem dX8_needState_7 : decode cX8_needState 7 = .ok (.dup, 1) := by decide +kernel
theorem dX8_needState_8 : decode cX8_needState 8 = .ok (.ldc_w 287, 3) := by decide +kernel
theorem dX8_needState_11 : decode cX8_needState 11 = .ok (.invokespecial 191, 3) := by decide +kernel
theorem dX8_needState_14 : decode cX8_needState 14 = .ok (.athrow, 1) := by decide +kernel
theorem dX8_needState_15 : decode cX8_needState 15 = .ok (.return_, 1) := by decide +kernel
theorem dX8_needMetre_0 : decode cX8_needMetre 0 = .ok (.iload_n 0, 1) := by decide +kernel
theorem dX8_needMetre_1 : decode cX8_needMetre 1 = .ok (.bipush 60, 2) := by decide +kernel
theorem dX8_needMetre_3 : decode cX8_needMetre 3 = .ok (.invokestatic 111, 3) := by decide +kernel
theorem dX8_needMetre_6 : decode cX8_needMetre 6 = .ok (.ifCond .ne 14, 3) := by decide +kernel
theorem dX8_needMetre_9 : decode cX8_needMetre 9 = .ok (.new 115, 3) := by decide +kernel
theorem dX8_needMetre_12 : decode cX8_needMetre 12 = .ok (.dup, 1) := by decide +kernel
theorem dX8_needMetre_13 : decode cX8_needMetre 13 = .ok (.ldc_w 289, 3) := by decide +kernel
theorem dX8_needMetre_16 : decode cX8_needMetre 16 = .ok (.invokespecial 119, 3) := by decide +kernel
theorem dX8_needMetre_19 : decode cX8_needMetre 19 = .ok (.athrow, 1) := by decide +kernel
theorem dX8_needMetre_20 : decode cX8_needMetre 20 = .ok (.return_, 1) := by decide +kernel
theorem dX8_streetOf_0 : decode cX8_streetOf 0 = .ok (.iload_n 1, 1) := by decide +kernel
theorem dX8_streetOf_1 : decode cX8_streetOf 1 = .ok (.aload_n 0, 1) := by decide +kernel
theorem dX8_streetOf_2 : decode cX8_streetOf 2 = .ok (.getfield 12, 3) := by decide +kernel
theorem dX8_streetOf_5 : decode cX8_streetOf 5 = .ok (.invokevirtual 88, 3) := by decide +kernel
theorem dX8_streetOf_8 : decode cX8_streetOf 8 = .ok (.invokestatic 111, 3) := by decide +kernel
theorem dX8_streetOf_11 : decode cX8_streetOf 11 = .ok (.ifCond .ne 14, 3) := by decide +kernel
theorem dX8_streetOf_14 : decode cX8_streetOf 14 = .ok (.new 115, 3) := by decide +kernel
theorem dX8_streetOf_17 : decode cX8_streetOf 17 = .ok (.dup, 1) := by decide +kernel
theorem dX8_streetOf_18 : decode cX8_streetOf 18 = .ok (.ldc_w 291, 3) := by decide +kernel
theorem dX8_streetOf_21 : decode cX8_streetOf 21 = .ok (.invokespecial 119, 3) := by decide +kernel
theorem dX8_streetOf_24 : decode cX8_streetOf 24 = .ok (.athrow, 1) := by decide +kernel
theorem dX8_streetOf_25 : decode cX8_streetOf 25 = .ok (.aload_n 0, 1) := by decide +kernel
theorem dX8_streetOf_26 : decode cX8_streetOf 26 = .ok (.getfield 12, 3) := by decide +kernel
theorem dX8_streetOf_29 : decode cX8_streetOf 29 = .ok (.iload_n 1, 1) := by decide +kernel
theorem dX8_streetOf_30 : decode cX8_streetOf 30 = .ok (.invokevirtual 122, 3) := by decide +kernel
theorem dX8_streetOf_33 : decode cX8_streetOf 33 = .ok (.checkcast 42, 3) := by decide +kernel
theorem dX8_streetOf_36 : decode cX8_streetOf 36 = .ok (.areturn, 1) := by decide +kernel
theorem dX8_carOf_0 : decode cX8_carOf 0 = .ok (.iload_n 1, 1) := by decide +kernel
theorem dX8_carOf_1 : decode cX8_carOf 1 = .ok (.aload_n 0, 1) := by decide +kernel
theorem dX8_carOf_2 : decode cX8_carOf 2 = .ok (.getfield 19, 3) := by decide +kernel
theorem dX8_carOf_5 : decode cX8_carOf 5 = .ok (.invokevirtual 88, 3) := by decide +kernel
theorem dX8_carOf_8 : decode cX8_carOf 8 = .ok (.invokestatic 111, 3) := by decide +kernel
theorem dX8_carOf_11 : decode cX8_carOf 11 = .ok (.ifCond .ne 14, 3) := by decide +kernel
theorem dX8_carOf_14 : decode cX8_carOf 14 = .ok (.new 115, 3) := by decide +kernel
theorem dX8_carOf_17 : decode cX8_carOf 17 = .ok (.dup, 1) := by decide +kernel
theorem dX8_carOf_18 : decode cX8_carOf 18 = .ok (.ldc_w 293, 3) := by decide +kernel
theorem dX8_carOf_21 : decode cX8_carOf 21 = .ok (.invokespecial 119, 3) := by decide +kernel
theorem dX8_carOf_24 : decode cX8_carOf 24 = .ok (.athrow, 1) := by decide +kernel
theorem dX8_carOf_25 : decode cX8_carOf 25 = .ok (.aload_n 0, 1) := by decide +kernel
theorem dX8_carOf_26 : decode cX8_carOf 26 = .ok (.getfield 19, 3) := by decide +kernel
theorem dX8_carOf_29 : decode cX8_carOf 29 = .ok (.iload_n 1, 1) := by decide +kernel
theorem dX8_carOf_30 : decode cX8_carOf 30 = .ok (.invokevirtual 122, 3) := by decide +kernel
theorem dX8_carOf_33 : decode cX8_carOf 33 = .ok (.checkcast 141, 3) := by decide +kernel
theorem dX8_carOf_36 : decode cX8_carOf 36 = .ok (.areturn, 1) := by decide +kernel
theorem dX8_fineOf_0 : decode cX8_fineOf 0 = .ok (.iload_n 1, 1) := by decide +kernel
theorem dX8_fineOf_1 : decode cX8_fineOf 1 = .ok (.aload_n 0, 1) := by decide +kernel
theorem dX8_fineOf_2 : decode cX8_fineOf 2 = .ok (.getfield 28, 3) := by decide +kernel
theorem dX8_fineOf_5 : decode cX8_fineOf 5 = .ok (.invokevirtual 88, 3) := by decide +kernel
theorem dX8_fineOf_8 : decode cX8_fineOf 8 = .ok (.invokestatic 111, 3) := by decide +kernel
theorem dX8_fineOf_11 : decode cX8_fineOf 11 = .ok (.ifCond .ne 14, 3) := by decide +kernel
theorem dX8_fineOf_14 : decode cX8_fineOf 14 = .ok (.new 115, 3) := by decide +kernel
theorem dX8_fineOf_17 : decode cX8_fineOf 17 = .ok (.dup, 1) := by decide +kernel
theorem dX8_fineOf_18 : decode cX8_fineOf 18 = .ok (.ldc_w 295, 3) := by decide +kernel
theorem dX8_fineOf_21 : decode cX8_fineOf 21 = .ok (.invokespecial 119, 3) := by decide +kernel
theorem dX8_fineOf_24 : decode cX8_fineOf 24 = .ok (.athrow, 1) := by decide +kernel
theorem dX8_fineOf_25 : decode cX8_fineOf 25 = .ok (.aload_n 0, 1) := by decide +kernel
theorem dX8_fineOf_26 : decode cX8_fineOf 26 = .ok (.getfield 28, 3) := by decide +kernel
theorem dX8_fineOf_29 : decode cX8_fineOf 29 = .ok (.iload_n 1, 1) := by decide +kernel
theorem dX8_fineOf_30 : decode cX8_fineOf 30 = .ok (.invokevirtual 122, 3) := by decide +kernel
theorem dX8_fineOf_33 : decode cX8_fineOf 33 = .ok (.checkcast 238, 3) := by decide +kernel
theorem dX8_fineOf_36 : decode cX8_fineOf 36 = .ok (.areturn, 1) := by decide +kernel
theorem dX8_signThatCounts_0 : decode cX8_signThatCounts 0 = .ok (.aconst_null, 1) := by decide +kernel
theorem dX8_signThatCounts_1 : decode cX8_signThatCounts 1 = .ok (.astore 4, 2) := by decide +kernel
theorem dX8_signThatCounts_3 : decode cX8_signThatCounts 3 = .ok (.iconst 0, 1) := by decide +kernel
theorem dX8_signThatCounts_4 : decode cX8_signThatCounts 4 = .ok (.istore 5, 2) := by decide +kernel
theorem dX8_signThatCounts_6 : decode cX8_signThatCounts 6 = .ok (.iload 5, 2) := by decide +kernel
theorem dX8_signThatCounts_8 : decode cX8_signThatCounts 8 = .ok (.aload_n 0, 1) := by decide +kernel
theorem dX8_signThatCounts_9 : decode cX8_signThatCounts 9 = .ok (.getfield 16, 3) := by decide +kernel
theorem dX8_signThatCounts_12 : decode cX8_signThatCounts 12 = .ok (.invokevirtual 88, 3) := by decide +kernel
theorem dX8_signThatCounts_15 : decode cX8_signThatCounts 15 = .ok (.if_icmp .ge 53, 3) := by decide +kernel
theorem dX8_signThatCounts_18 : decode cX8_signThatCounts 18 = .ok (.aload_n 0, 1) := by decide +kernel
theorem dX8_signThatCounts_19 : decode cX8_signThatCounts 19 = .ok (.getfield 16, 3) := by decide +kernel
theorem dX8_signThatCounts_22 : decode cX8_signThatCounts 22 = .ok (.iload 5, 2) := by decide +kernel
theorem dX8_signThatCounts_24 : decode cX8_signThatCounts 24 = .ok (.invokevirtual 122, 3) := by decide +kernel
theorem dX8_signThatCounts_27 : decode cX8_signThatCounts 27 = .ok (.checkcast 95, 3) := by decide +kernel
theorem dX8_signThatCounts_30 : decode cX8_signThatCounts 30 = .ok (.astore 6, 2) := by decide +kernel
theorem dX8_signThatCounts_32 : decode cX8_signThatCounts 32 = .ok (.aload 6, 2) := by decide +kernel
theorem dX8_signThatCounts_34 : decode cX8_signThatCounts 34 = .ok (.iload_n 1, 1) := by decide +kernel
theorem dX8_signThatCounts_35 : decode cX8_signThatCounts 35 = .ok (.iload_n 2, 1) := by decide +kernel
theorem dX8_signThatCounts_36 : decode cX8_signThatCounts 36 = .ok (.iload_n 3, 1) := by decide +kernel
theorem dX8_signThatCounts_37 : decode cX8_signThatCounts 37 = .ok (.invokevirtual 134, 3) := by decide +kernel
theorem dX8_signThatCounts_40 : decode cX8_signThatCounts 40 = .ok (.ifCond .eq 22, 3) := by decide +kernel
theorem dX8_signThatCounts_43 : decode cX8_signThatCounts 43 = .ok (.aload 4, 2) := by decide +kernel
theorem dX8_signThatCounts_45 : decode cX8_signThatCounts 45 = .ok (.ifnull 13, 3) := by decide +kernel
theorem dX8_signThatCounts_48 : decode cX8_signThatCounts 48 = .ok (.aload 6, 2) := by decide +kernel
theorem dX8_signThatCounts_50 : decode cX8_signThatCounts 50 = .ok (.aload 4, 2) := by decide +kernel
end
section
theorem dX8_signThatCounts_52 : decode cX8_signThatCounts 52 = .ok (.invokevirtual 297, 3) := by decide +kernel
theorem dX8_signThatCounts_55 : decode cX8_signThatCounts 55 = .ok (.ifCond .eq 7, 3) := by decide +kernel
theorem dX8_signThatCounts_58 : decode cX8_signThatCounts 58 = .ok (.aload 6, 2) := by decide +kernel
theorem dX8_signThatCounts_60 : decode cX8_signThatCounts 60 = .ok (.astore 4, 2) := by decide +kernel
theorem dX8_signThatCounts_62 : decode cX8_signThatCounts 62 = .ok (.iinc 5 1, 3) := by decide +kernel
theorem dX8_signThatCounts_65 : decode cX8_signThatCounts 65 = .ok (.goto (-59), 3) := by decide +kernel
theorem dX8_signThatCounts_68 : decode cX8_signThatCounts 68 = .ok (.aload 4, 2) := by decide +kernel
theorem dX8_signThatCounts_70 : decode cX8_signThatCounts 70 = .ok (.areturn, 1) := by decide +kernel
theorem dX8_isLeftOut_0 : decode cX8_isLeftOut 0 = .ok (.iconst 0, 1) := by decide +kernel
theorem dX8_isLeftOut_1 : decode cX8_isLeftOut 1 = .ok (.istore 4, 2) := by decide +kernel
theorem dX8_isLeftOut_3 : decode cX8_isLeftOut 3 = .ok (.iload 4, 2) := by decide +kernel
theorem dX8_isLeftOut_5 : decode cX8_isLeftOut 5 = .ok (.aload_n 0, 1) := by decide +kernel
theorem dX8_isLeftOut_6 : decode cX8_isLeftOut 6 = .ok (.getfield 16, 3) := by decide +kernel
theorem dX8_isLeftOut_9 : decode cX8_isLeftOut 9 = .ok (.invokevirtual 88, 3) := by decide +kernel
theorem dX8_isLeftOut_12 : decode cX8_isLeftOut 12 = .ok (.if_icmp .ge 48, 3) := by decide +kernel
theorem dX8_isLeftOut_15 : decode cX8_isLeftOut 15 = .ok (.aload_n 0, 1) := by decide +kernel
theorem dX8_isLeftOut_16 : decode cX8_isLeftOut 16 = .ok (.getfield 16, 3) := by decide +kernel
theorem dX8_isLeftOut_19 : decode cX8_isLeftOut 19 = .ok (.iload 4, 2) := by decide +kernel
theorem dX8_isLeftOut_21 : decode cX8_isLeftOut 21 = .ok (.invokevirtual 122, 3) := by decide +kernel
theorem dX8_isLeftOut_24 : decode cX8_isLeftOut 24 = .ok (.checkcast 95, 3) := by decide +kernel
theorem dX8_isLeftOut_27 : decode cX8_isLeftOut 27 = .ok (.astore 5, 2) := by decide +kernel
theorem dX8_isLeftOut_29 : decode cX8_isLeftOut 29 = .ok (.aload 5, 2) := by decide +kernel
theorem dX8_isLeftOut_31 : decode cX8_isLeftOut 31 = .ok (.aload_n 1, 1) := by decide +kernel
theorem dX8_isLeftOut_32 : decode cX8_isLeftOut 32 = .ok (.getfield 301, 3) := by decide +kernel
theorem dX8_isLeftOut_35 : decode cX8_isLeftOut 35 = .ok (.iload_n 2, 1) := by decide +kernel
theorem dX8_isLeftOut_36 : decode cX8_isLeftOut 36 = .ok (.iload_n 3, 1) := by decide +kernel
theorem dX8_isLeftOut_37 : decode cX8_isLeftOut 37 = .ok (.invokevirtual 134, 3) := by decide +kernel
theorem dX8_isLeftOut_40 : decode cX8_isLeftOut 40 = .ok (.ifCond .eq 14, 3) := by decide +kernel
theorem dX8_isLeftOut_43 : decode cX8_isLeftOut 43 = .ok (.aload 5, 2) := by decide +kernel
theorem dX8_isLeftOut_45 : decode cX8_isLeftOut 45 = .ok (.aload_n 1, 1) := by decide +kernel
theorem dX8_isLeftOut_46 : decode cX8_isLeftOut 46 = .ok (.invokevirtual 297, 3) := by decide +kernel
theorem dX8_isLeftOut_49 : decode cX8_isLeftOut 49 = .ok (.ifCond .eq 5, 3) := by decide +kernel
theorem dX8_isLeftOut_52 : decode cX8_isLeftOut 52 = .ok (.iconst 1, 1) := by decide +kernel
theorem dX8_isLeftOut_53 : decode cX8_isLeftOut 53 = .ok (.ireturn, 1) := by decide +kernel
theorem dX8_isLeftOut_54 : decode cX8_isLeftOut 54 = .ok (.iinc 4 1, 3) := by decide +kernel
theorem dX8_isLeftOut_57 : decode cX8_isLeftOut 57 = .ok (.goto (-54), 3) := by decide +kernel
theorem dX8_isLeftOut_60 : decode cX8_isLeftOut 60 = .ok (.iconst 0, 1) := by decide +kernel
theorem dX8_isLeftOut_61 : decode cX8_isLeftOut 61 = .ok (.ireturn, 1) := by decide +kernel
theorem dX8_isHomeFull_0 : decode cX8_isHomeFull 0 = .ok (.aload_n 0, 1) := by decide +kernel
theorem dX8_isHomeFull_1 : decode cX8_isHomeFull 1 = .ok (.iload_n 1, 1) := by decide +kernel
theorem dX8_isHomeFull_2 : decode cX8_isHomeFull 2 = .ok (.iload_n 2, 1) := by decide +kernel
theorem dX8_isHomeFull_3 : decode cX8_isHomeFull 3 = .ok (.invokevirtual 302, 3) := by decide +kernel
theorem dX8_isHomeFull_6 : decode cX8_isHomeFull 6 = .ok (.iconst 2, 1) := by decide +kernel
theorem dX8_isHomeFull_7 : decode cX8_isHomeFull 7 = .ok (.if_icmp .lt 5, 3) := by decide +kernel
theorem dX8_isHomeFull_10 : decode cX8_isHomeFull 10 = .ok (.iconst 1, 1) := by decide +kernel
theorem dX8_isHomeFull_11 : decode cX8_isHomeFull 11 = .ok (.ireturn, 1) := by decide +kernel
theorem dX8_isHomeFull_12 : decode cX8_isHomeFull 12 = .ok (.iconst 0, 1) := by decide +kernel
theorem dX8_isHomeFull_13 : decode cX8_isHomeFull 13 = .ok (.istore 4, 2) := by decide +kernel
theorem dX8_isHomeFull_15 : decode cX8_isHomeFull 15 = .ok (.iload 4, 2) := by decide +kernel
theorem dX8_isHomeFull_17 : decode cX8_isHomeFull 17 = .ok (.aload_n 0, 1) := by decide +kernel
theorem dX8_isHomeFull_18 : decode cX8_isHomeFull 18 = .ok (.getfield 22, 3) := by decide +kernel
theorem dX8_isHomeFull_21 : decode cX8_isHomeFull 21 = .ok (.invokevirtual 88, 3) := by decide +kernel
theorem dX8_isHomeFull_24 : decode cX8_isHomeFull 24 = .ok (.if_icmp .ge 49, 3) := by decide +kernel
theorem dX8_isHomeFull_27 : decode cX8_isHomeFull 27 = .ok (.aload_n 0, 1) := by decide +kernel
theorem dX8_isHomeFull_28 : decode cX8_isHomeFull 28 = .ok (.getfield 22, 3) := by decide +kernel
theorem dX8_isHomeFull_31 : decode cX8_isHomeFull 31 = .ok (.iload 4, 2) := by decide +kernel
theorem dX8_isHomeFull_33 : decode cX8_isHomeFull 33 = .ok (.invokevirtual 122, 3) := by decide +kernel
theorem dX8_isHomeFull_36 : decode cX8_isHomeFull 36 = .ok (.checkcast 155, 3) := by decide +kernel
theorem dX8_isHomeFull_39 : decode cX8_isHomeFull 39 = .ok (.getfield 305, 3) := by decide +kernel
theorem dX8_isHomeFull_42 : decode cX8_isHomeFull 42 = .ok (.istore 5, 2) := by decide +kernel
theorem dX8_isHomeFull_44 : decode cX8_isHomeFull 44 = .ok (.iload 5, 2) := by decide +kernel
theorem dX8_isHomeFull_46 : decode cX8_isHomeFull 46 = .ok (.iload_n 2, 1) := by decide +kernel
theorem dX8_isHomeFull_47 : decode cX8_isHomeFull 47 = .ok (.iload_n 3, 1) := by decide +kernel
theorem dX8_isHomeFull_48 : decode cX8_isHomeFull 48 = .ok (.invokestatic 65, 3) := by decide +kernel
theorem dX8_isHomeFull_51 : decode cX8_isHomeFull 51 = .ok (.ifCond .eq 16, 3) := by decide +kernel
theorem dX8_isHomeFull_54 : decode cX8_isHomeFull 54 = .ok (.aload_n 0, 1) := by decide +kernel
theorem dX8_isHomeFull_55 : decode cX8_isHomeFull 55 = .ok (.iload_n 1, 1) := by decide +kernel
theorem dX8_isHomeFull_56 : decode cX8_isHomeFull 56 = .ok (.iload 5, 2) := by decide +kernel
theorem dX8_isHomeFull_58 : decode cX8_isHomeFull 58 = .ok (.invokevirtual 302, 3) := by decide +kernel
theorem dX8_isHomeFull_61 : decode cX8_isHomeFull 61 = .ok (.iconst 2, 1) := by decide +kernel
theorem dX8_isHomeFull_62 : decode cX8_isHomeFull 62 = .ok (.if_icmp .lt 5, 3) := by decide +kernel
theorem dX8_isHomeFull_65 : decode cX8_isHomeFull 65 = .ok (.iconst 1, 1) := by decide +kernel
theorem dX8_isHomeFull_66 : decode cX8_isHomeFull 66 = .ok (.ireturn, 1) := by decide +kernel
theorem dX8_isHomeFull_67 : decode cX8_isHomeFull 67 = .ok (.iinc 4 1, 3) := by decide +kernel
theorem dX8_isHomeFull_70 : decode cX8_isHomeFull 70 = .ok (.goto (-55), 3) := by decide +kernel
theorem dX8_isHomeFull_73 : decode cX8_isHomeFull 73 = .ok (.iconst 0, 1) := by decide +kernel
theorem dX8_isHomeFull_74 : decode cX8_isHomeFull 74 = .ok (.ireturn, 1) := by decide +kernel
theorem dX8_permitsOf_0 : decode cX8_permitsOf 0 = .ok (.iconst 0, 1) := by decide +kernel
theorem dX8_permitsOf_1 : decode cX8_permitsOf 1 = .ok (.istore_n 3, 1) := by decide +kernel
theorem dX8_permitsOf_2 : decode cX8_permitsOf 2 = .ok (.iconst 0, 1) := by decide +kernel
theorem dX8_permitsOf_3 : decode cX8_permitsOf 3 = .ok (.istore 4, 2) := by decide +kernel
theorem dX8_permitsOf_5 : decode cX8_permitsOf 5 = .ok (.iload 4, 2) := by decide +kernel
theorem dX8_permitsOf_7 : decode cX8_permitsOf 7 = .ok (.aload_n 0, 1) := by decide +kernel
theorem dX8_permitsOf_8 : decode cX8_permitsOf 8 = .ok (.getfield 22, 3) := by decide +kernel
theorem dX8_permitsOf_11 : decode cX8_permitsOf 11 = .ok (.invokevirtual 88, 3) := by decide +kernel
theorem dX8_permitsOf_14 : decode cX8_permitsOf 14 = .ok (.if_icmp .ge 44, 3) := by decide +kernel
theorem dX8_permitsOf_17 : decode cX8_permitsOf 17 = .ok (.aload_n 0, 1) := by decide +kernel
theorem dX8_permitsOf_18 : decode cX8_permitsOf 18 = .ok (.getfield 22, 3) := by decide +kernel
theorem dX8_permitsOf_21 : decode cX8_permitsOf 21 = .ok (.iload 4, 2) := by decide +kernel
theorem dX8_permitsOf_23 : decode cX8_permitsOf 23 = .ok (.invokevirtual 122, 3) := by decide +kernel
theorem dX8_permitsOf_26 : decode cX8_permitsOf 26 = .ok (.checkcast 155, 3) := by decide +kernel
theorem dX8_permitsOf_29 : decode cX8_permitsOf 29 = .ok (.astore 5, 2) := by decide +kernel
theorem dX8_permitsOf_31 : decode cX8_permitsOf 31 = .ok (.aload 5, 2) := by decide +kernel
theorem dX8_permitsOf_33 : decode cX8_permitsOf 33 = .ok (.getfield 308, 3) := by decide +kernel
theorem dX8_permitsOf_36 : decode cX8_permitsOf 36 = .ok (.iload_n 1, 1) := by decide +kernel
theorem dX8_permitsOf_37 : decode cX8_permitsOf 37 = .ok (.if_icmp .ne 15, 3) := by decide +kernel
theorem dX8_permitsOf_40 : decode cX8_permitsOf 40 = .ok (.aload 5, 2) := by decide +kernel
theorem dX8_permitsOf_42 : decode cX8_permitsOf 42 = .ok (.iload_n 2, 1) := by decide +kernel
theorem dX8_permitsOf_43 : decode cX8_permitsOf 43 = .ok (.invokevirtual 311, 3) := by decide +kernel
theorem dX8_permitsOf_46 : decode cX8_permitsOf 46 = .ok (.ifCond .eq 6, 3) := by decide +kernel
theorem dX8_permitsOf_49 : decode cX8_permitsOf 49 = .ok (.iinc 3 1, 3) := by decide +kernel
theorem dX8_permitsOf_52 : decode cX8_permitsOf 52 = .ok (.iinc 4 1, 3) := by decide +kernel
theorem dX8_permitsOf_55 : decode cX8_permitsOf 55 = .ok (.goto (-50), 3) := by decide +kernel
theorem dX8_permitsOf_58 : decode cX8_permitsOf 58 = .ok (.iload_n 3, 1) := by decide +kernel
theorem dX8_permitsOf_59 : decode cX8_permitsOf 59 = .ok (.ireturn, 1) := by decide +kernel
theorem dX8_userOf_0 : decode cX8_userOf 0 = .ok (.aload_n 1, 1) := by decide +kernel
theorem dX8_userOf_1 : decode cX8_userOf 1 = .ok (.getfield 314, 3) := by decide +kernel
theorem dX8_userOf_4 : decode cX8_userOf 4 = .ok (.ifCond .ne 20, 3) := by decide +kernel
theorem dX8_userOf_7 : decode cX8_userOf 7 = .ok (.aload_n 0, 1) := by decide +kernel
theorem dX8_userOf_8 : decode cX8_userOf 8 = .ok (.aload_n 1, 1) := by decide +kernel
theorem dX8_userOf_9 : decode cX8_userOf 9 = .ok (.iload_n 2, 1) := by decide +kernel
theorem dX8_userOf_10 : decode cX8_userOf 10 = .ok (.iload_n 3, 1) := by decide +kernel
theorem dX8_userOf_11 : decode cX8_userOf 11 = .ok (.bipush 96, 2) := by decide +kernel
theorem dX8_userOf_13 : decode cX8_userOf 13 = .ok (.idiv, 1) := by decide +kernel
theorem dX8_userOf_14 : decode cX8_userOf 14 = .ok (.invokevirtual 317, 3) := by decide +kernel
theorem dX8_userOf_17 : decode cX8_userOf 17 = .ok (.ifCond .ne 7, 3) := by decide +kernel
theorem dX8_userOf_20 : decode cX8_userOf 20 = .ok (.iconst 4, 1) := by decide +kernel
theorem dX8_userOf_21 : decode cX8_userOf 21 = .ok (.goto 7, 3) := by decide +kernel
theorem dX8_userOf_24 : decode cX8_userOf 24 = .ok (.aload_n 1, 1) := by decide +kernel
theorem dX8_userOf_25 : decode cX8_userOf 25 = .ok (.getfield 314, 3) := by decide +kernel
theorem dX8_userOf_28 : decode cX8_userOf 28 = .ok (.ireturn, 1) := by decide +kernel
theorem dX8_hasPermit_0 : decode cX8_hasPermit 0 = .ok (.iconst 0, 1) := by decide +kernel
theorem dX8_hasPermit_1 : decode cX8_hasPermit 1 = .ok (.istore 4, 2) := by decide +kernel
theorem dX8_hasPermit_3 : decode cX8_hasPermit 3 = .ok (.iload 4, 2) := by decide +kernel
theorem dX8_hasPermit_5 : decode cX8_hasPermit 5 = .ok (.aload_n 0, 1) := by decide +kernel
theorem dX8_hasPermit_6 : decode cX8_hasPermit 6 = .ok (.getfield 22, 3) := by decide +kernel
theorem dX8_hasPermit_9 : decode cX8_hasPermit 9 = .ok (.invokevirtual 88, 3) := by decide +kernel
theorem dX8_hasPermit_12 : decode cX8_hasPermit 12 = .ok (.if_icmp .ge 55, 3) := by decide +kernel
theorem dX8_hasPermit_15 : decode cX8_hasPermit 15 = .ok (.aload_n 0, 1) := by decide +kernel
theorem dX8_hasPermit_16 : decode cX8_hasPermit 16 = .ok (.getfield 22, 3) := by decide +kernel
theorem dX8_hasPermit_19 : decode cX8_hasPermit 19 = .ok (.iload 4, 2) := by decide +kernel
theorem dX8_hasPermit_21 : decode cX8_hasPermit 21 = .ok (.invokevirtual 122, 3) := by decide +kernel
theorem dX8_hasPermit_24 : decode cX8_hasPermit 24 = .ok (.checkcast 155, 3) := by decide +kernel
theorem dX8_hasPermit_27 : decode cX8_hasPermit 27 = .ok (.astore 5, 2) := by decide +kernel
theorem dX8_hasPermit_29 : decode cX8_hasPermit 29 = .ok (.aload 5, 2) := by decide +kernel
theorem dX8_hasPermit_31 : decode cX8_hasPermit 31 = .ok (.getfield 162, 3) := by decide +kernel
theorem dX8_hasPermit_34 : decode cX8_hasPermit 34 = .ok (.aload_n 1, 1) := by decide +kernel
theorem dX8_hasPermit_35 : decode cX8_hasPermit 35 = .ok (.getfield 145, 3) := by decide +kernel
theorem dX8_hasPermit_38 : decode cX8_hasPermit 38 = .ok (.if_icmp .ne 23, 3) := by decide +kernel
theorem dX8_hasPermit_41 : decode cX8_hasPermit 41 = .ok (.aload 5, 2) := by decide +kernel
theorem dX8_hasPermit_43 : decode cX8_hasPermit 43 = .ok (.getfield 321, 3) := by decide +kernel
theorem dX8_hasPermit_46 : decode cX8_hasPermit 46 = .ok (.iload_n 2, 1) := by decide +kernel
theorem dX8_hasPermit_47 : decode cX8_hasPermit 47 = .ok (.if_icmp .ne 14, 3) := by decide +kernel
theorem dX8_hasPermit_50 : decode cX8_hasPermit 50 = .ok (.aload 5, 2) := by decide +kernel
theorem dX8_hasPermit_52 : decode cX8_hasPermit 52 = .ok (.iload_n 3, 1) := by decide +kernel
theorem dX8_hasPermit_53 : decode cX8_hasPermit 53 = .ok (.invokevirtual 311, 3) := by decide +kernel
theorem dX8_hasPermit_56 : decode cX8_hasPermit 56 = .ok (.ifCond .eq 5, 3) := by decide +kernel
theorem dX8_hasPermit_59 : decode cX8_hasPermit 59 = .ok (.iconst 1, 1) := by decide +kernel
theorem dX8_hasPermit_60 : decode cX8_hasPermit 60 = .ok (.ireturn, 1) := by decide +kernel
theorem dX8_hasPermit_61 : decode cX8_hasPermit 61 = .ok (.iinc 4 1, 3) := by decide +kernel
theorem dX8_hasPermit_64 : decode cX8_hasPermit 64 = .ok (.goto (-61), 3) := by decide +kernel
theorem dX8_hasPermit_67 : decode cX8_hasPermit 67 = .ok (.iconst 0, 1) := by decide +kernel
theorem dX8_hasPermit_68 : decode cX8_hasPermit 68 = .ok (.ireturn, 1) := by decide +kernel
theorem dX8_isGap_0 : decode cX8_isGap 0 = .ok (.iload_n 2, 1) := by decide +kernel
theorem dX8_isGap_1 : decode cX8_isGap 1 = .ok (.iload_n 3, 1) := by decide +kernel
theorem dX8_isGap_2 : decode cX8_isGap 2 = .ok (.iadd, 1) := by decide +kernel
theorem dX8_isGap_3 : decode cX8_isGap 3 = .ok (.bipush 60, 2) := by decide +kernel
theorem dX8_isGap_5 : decode cX8_isGap 5 = .ok (.if_icmp .le 5, 3) := by decide +kernel
theorem dX8_isGap_8 : decode cX8_isGap 8 = .ok (.iconst 0, 1) := by decide +kernel
theorem dX8_isGap_9 : decode cX8_isGap 9 = .ok (.ireturn, 1) := by decide +kernel
theorem dX8_isGap_10 : decode cX8_isGap 10 = .ok (.iconst 0, 1) := by decide +kernel
theorem dX8_isGap_11 : decode cX8_isGap 11 = .ok (.istore 4, 2) := by decide +kernel
theorem dX8_isGap_13 : decode cX8_isGap 13 = .ok (.iload 4, 2) := by decide +kernel
theorem dX8_isGap_15 : decode cX8_isGap 15 = .ok (.aload_n 0, 1) := by decide +kernel
theorem dX8_isGap_16 : decode cX8_isGap 16 = .ok (.getfield 19, 3) := by decide +kernel
theorem dX8_isGap_19 : decode cX8_isGap 19 = .ok (.invokevirtual 88, 3) := by decide +kernel
theorem dX8_isGap_22 : decode cX8_isGap 22 = .ok (.if_icmp .ge 52, 3) := by decide +kernel
theorem dX8_isGap_25 : decode cX8_isGap 25 = .ok (.aload_n 0, 1) := by decide +kernel
theorem dX8_isGap_26 : decode cX8_isGap 26 = .ok (.getfield 19, 3) := by decide +kernel
theorem dX8_isGap_29 : decode cX8_isGap 29 = .ok (.iload 4, 2) := by decide +kernel
theorem dX8_isGap_31 : decode cX8_isGap 31 = .ok (.invokevirtual 122, 3) := by decide +kernel
theorem dX8_isGap_34 : decode cX8_isGap 34 = .ok (.checkcast 141, 3) := by decide +kernel
theorem dX8_isGap_37 : decode cX8_isGap 37 = .ok (.getfield 169, 3) := by decide +kernel
theorem dX8_isGap_40 : decode cX8_isGap 40 = .ok (.astore 5, 2) := by decide +kernel
theorem dX8_isGap_42 : decode cX8_isGap 42 = .ok (.aload 5, 2) := by decide +kernel
theorem dX8_isGap_44 : decode cX8_isGap 44 = .ok (.ifnull 24, 3) := by decide +kernel
theorem dX8_isGap_47 : decode cX8_isGap 47 = .ok (.aload 5, 2) := by decide +kernel
theorem dX8_isGap_49 : decode cX8_isGap 49 = .ok (.getfield 226, 3) := by decide +kernel
theorem dX8_isGap_52 : decode cX8_isGap 52 = .ok (.iload_n 1, 1) := by decide +kernel
theorem dX8_isGap_53 : decode cX8_isGap 53 = .ok (.if_icmp .ne 15, 3) := by decide +kernel
theorem dX8_isGap_56 : decode cX8_isGap 56 = .ok (.aload 5, 2) := by decide +kernel
theorem dX8_isGap_58 : decode cX8_isGap 58 = .ok (.iload_n 2, 1) := by decide +kernel
theorem dX8_isGap_59 : decode cX8_isGap 59 = .ok (.iload_n 3, 1) := by decide +kernel
theorem dX8_isGap_60 : decode cX8_isGap 60 = .ok (.invokevirtual 322, 3) := by decide +kernel
theorem dX8_isGap_63 : decode cX8_isGap 63 = .ok (.ifCond .eq 5, 3) := by decide +kernel
theorem dX8_isGap_66 : decode cX8_isGap 66 = .ok (.iconst 0, 1) := by decide +kernel
theorem dX8_isGap_67 : decode cX8_isGap 67 = .ok (.ireturn, 1) := by decide +kernel
theorem dX8_isGap_68 : decode cX8_isGap 68 = .ok (.iinc 4 1, 3) := by decide +kernel
theorem dX8_isGap_71 : decode cX8_isGap 71 = .ok (.goto (-58), 3) := by decide +kernel
theorem dX8_isGap_74 : decode cX8_isGap 74 = .ok (.iconst 1, 1) := by decide +kernel
theorem dX8_isGap_75 : decode cX8_isGap 75 = .ok (.ireturn, 1) := by decide +kernel
theorem dX8_endStand_0 : decode cX8_endStand 0 = .ok (.aload_n 0, 1) := by decide +kernel
theorem dX8_endStand_1 : decode cX8_endStand 1 = .ok (.aload_n 1, 1) := by decide +kernel
theorem dX8_endStand_2 : decode cX8_endStand 2 = .ok (.getfield 226, 3) := by decide +kernel
theorem dX8_endStand_5 : decode cX8_endStand 5 = .ok (.invokevirtual 49, 3) := by decide +kernel
theorem dX8_endStand_8 : decode cX8_endStand 8 = .ok (.dup, 1) := by decide +kernel
theorem dX8_endStand_9 : decode cX8_endStand 9 = .ok (.getfield 184, 3) := by decide +kernel
theorem dX8_endStand_12 : decode cX8_endStand 12 = .ok (.aload_n 1, 1) := by decide +kernel
theorem dX8_endStand_13 : decode cX8_endStand 13 = .ok (.getfield 263, 3) := by decide +kernel
theorem dX8_endStand_16 : decode cX8_endStand 16 = .ok (.getfield 173, 3) := by decide +kernel
theorem dX8_endStand_19 : decode cX8_endStand 19 = .ok (.isub, 1) := by decide +kernel
theorem dX8_endStand_20 : decode cX8_endStand 20 = .ok (.putfield 184, 3) := by decide +kernel
theorem dX8_endStand_23 : decode cX8_endStand 23 = .ok (.aload_n 1, 1) := by decide +kernel
theorem dX8_endStand_24 : decode cX8_endStand 24 = .ok (.getfield 263, 3) := by decide +kernel
theorem dX8_endStand_27 : decode cX8_endStand 27 = .ok (.aconst_null, 1) := by decide +kernel
theorem dX8_endStand_28 : decode cX8_endStand 28 = .ok (.putfield 169, 3) := by decide +kernel
theorem dX8_endStand_31 : decode cX8_endStand 31 = .ok (.return_, 1) := by decide +kernel
theorem dX8_isOnBlocked_0 : decode cX8_isOnBlocked 0 = .ok (.aload_n 0, 1) := by decide +kernel
theorem dX8_isOnBlocked_1 : decode cX8_isOnBlocked 1 = .ok (.aload_n 1, 1) := by decide +kernel
theorem dX8_isOnBlocked_2 : decode cX8_isOnBlocked 2 = .ok (.getfield 226, 3) := by decide +kernel
theorem dX8_isOnBlocked_5 : decode cX8_isOnBlocked 5 = .ok (.invokevirtual 49, 3) := by decide +kernel
theorem dX8_isOnBlocked_8 : decode cX8_isOnBlocked 8 = .ok (.astore_n 2, 1) := by decide +kernel
theorem dX8_isOnBlocked_9 : decode cX8_isOnBlocked 9 = .ok (.iconst 0, 1) := by decide +kernel
theorem dX8_isOnBlocked_10 : decode cX8_isOnBlocked 10 = .ok (.istore_n 3, 1) := by decide +kernel
theorem dX8_isOnBlocked_11 : decode cX8_isOnBlocked 11 = .ok (.iload_n 3, 1) := by decide +kernel
theorem dX8_isOnBlocked_12 : decode cX8_isOnBlocked 12 = .ok (.aload_n 1, 1) := by decide +kernel
theorem dX8_isOnBlocked_13 : decode cX8_isOnBlocked 13 = .ok (.getfield 263, 3) := by decide +kernel
theorem dX8_isOnBlocked_16 : decode cX8_isOnBlocked 16 = .ok (.getfield 173, 3) := by decide +kernel
theorem dX8_isOnBlocked_19 : decode cX8_isOnBlocked 19 = .ok (.if_icmp .ge 24, 3) := by decide +kernel
theorem dX8_isOnBlocked_22 : decode cX8_isOnBlocked 22 = .ok (.aload_n 2, 1) := by decide +kernel
theorem dX8_isOnBlocked_23 : decode cX8_isOnBlocked 23 = .ok (.aload_n 1, 1) := by decide +kernel
theorem dX8_isOnBlocked_24 : decode cX8_isOnBlocked 24 = .ok (.getfield 325, 3) := by decide +kernel
theorem dX8_isOnBlocked_27 : decode cX8_isOnBlocked 27 = .ok (.iload_n 3, 1) := by decide +kernel
theorem dX8_isOnBlocked_28 : decode cX8_isOnBlocked 28 = .ok (.iadd, 1) := by decide +kernel
theorem dX8_isOnBlocked_29 : decode cX8_isOnBlocked 29 = .ok (.invokevirtual 57, 3) := by decide +kernel
theorem dX8_isOnBlocked_32 : decode cX8_isOnBlocked 32 = .ok (.ifCond .eq 5, 3) := by decide +kernel
theorem dX8_isOnBlocked_35 : decode cX8_isOnBlocked 35 = .ok (.iconst 1, 1) := by decide +kernel
theorem dX8_isOnBlocked_36 : decode cX8_isOnBlocked 36 = .ok (.ireturn, 1) := by decide +kernel
theorem dX8_isOnBlocked_37 : decode cX8_isOnBlocked 37 = .ok (.iinc 3 1, 3) := by decide +kernel
theorem dX8_isOnBlocked_40 : decode cX8_isOnBlocked 40 = .ok (.goto (-29), 3) := by decide +kernel
theorem dX8_isOnBlocked_43 : decode cX8_isOnBlocked 43 = .ok (.iconst 0, 1) := by decide +kernel
theorem dX8_isOnBlocked_44 : decode cX8_isOnBlocked 44 = .ok (.ireturn, 1) := by decide +kernel
theorem dX8_judgementOf_0 : decode cX8_judgementOf 0 = .ok (.iload_n 3, 1) := by decide +kernel
theorem dX8_judgementOf_1 : decode cX8_judgementOf 1 = .ok (.ifCond .eq 5, 3) := by decide +kernel
theorem dX8_judgementOf_4 : decode cX8_judgementOf 4 = .ok (.iconst 1, 1) := by decide +kernel
theorem dX8_judgementOf_5 : decode cX8_judgementOf 5 = .ok (.ireturn, 1) := by decide +kernel
theorem dX8_judgementOf_6 : decode cX8_judgementOf 6 = .ok (.aload_n 0, 1) := by decide +kernel
theorem dX8_judgementOf_7 : decode cX8_judgementOf 7 = .ok (.aload_n 1, 1) := by decide +kernel
theorem dX8_judgementOf_8 : decode cX8_judgementOf 8 = .ok (.iload_n 2, 1) := by decide +kernel
theorem dX8_judgementOf_9 : decode cX8_judgementOf 9 = .ok (.invokevirtual 328, 3) := by decide +kernel
theorem dX8_judgementOf_12 : decode cX8_judgementOf 12 = .ok (.ifCond .eq 5, 3) := by decide +kernel
theorem dX8_judgementOf_15 : decode cX8_judgementOf 15 = .ok (.iconst 2, 1) := by decide +kernel
theorem dX8_judgementOf_16 : decode cX8_judgementOf 16 = .ok (.ireturn, 1) := by decide +kernel
theorem dX8_judgementOf_17 : decode cX8_judgementOf 17 = .ok (.aload_n 0, 1) := by decide +kernel
theorem dX8_judgementOf_18 : decode cX8_judgementOf 18 = .ok (.aload_n 1, 1) := by decide +kernel
theorem dX8_judgementOf_19 : decode cX8_judgementOf 19 = .ok (.getfield 226, 3) := by decide +kernel
theorem dX8_judgementOf_22 : decode cX8_judgementOf 22 = .ok (.aload_n 1, 1) := by decide +kernel
theorem dX8_judgementOf_23 : decode cX8_judgementOf 23 = .ok (.getfield 325, 3) := by decide +kernel
theorem dX8_judgementOf_26 : decode cX8_judgementOf 26 = .ok (.iload_n 2, 1) := by decide +kernel
theorem dX8_judgementOf_27 : decode cX8_judgementOf 27 = .ok (.invokevirtual 130, 3) := by decide +kernel
theorem dX8_judgementOf_30 : decode cX8_judgementOf 30 = .ok (.astore 4, 2) := by decide +kernel
theorem dX8_judgementOf_32 : decode cX8_judgementOf 32 = .ok (.aload 4, 2) := by decide +kernel
theorem dX8_judgementOf_34 : decode cX8_judgementOf 34 = .ok (.ifnonnull 5, 3) := by decide +kernel
theorem dX8_judgementOf_37 : decode cX8_judgementOf 37 = .ok (.iconst 0, 1) := by decide +kernel
theorem dX8_judgementOf_38 : decode cX8_judgementOf 38 = .ok (.ireturn, 1) := by decide +kernel
theorem dX8_judgementOf_39 : decode cX8_judgementOf 39 = .ok (.iload_n 2, 1) := by decide +kernel
theorem dX8_judgementOf_40 : decode cX8_judgementOf 40 = .ok (.aload_n 1, 1) := by decide +kernel
theorem dX8_judgementOf_41 : decode cX8_judgementOf 41 = .ok (.getfield 196, 3) := by decide +kernel
theorem dX8_judgementOf_44 : decode cX8_judgementOf 44 = .ok (.isub, 1) := by decide +kernel
theorem dX8_judgementOf_45 : decode cX8_judgementOf 45 = .ok (.istore 5, 2) := by decide +kernel
theorem dX8_judgementOf_47 : decode cX8_judgementOf 47 = .ok (.aload 4, 2) := by decide +kernel
theorem dX8_judgementOf_49 : decode cX8_judgementOf 49 = .ok (.getfield 332, 3) := by decide +kernel
theorem dX8_judgementOf_52 : decode cX8_judgementOf 52 = .ok (.ifCond .le 17, 3) := by decide +kernel
theorem dX8_judgementOf_55 : decode cX8_judgementOf 55 = .ok (.iload 5, 2) := by decide +kernel
theorem dX8_judgementOf_57 : decode cX8_judgementOf 57 = .ok (.aload 4, 2) := by decide +kernel
theorem dX8_judgementOf_59 : decode cX8_judgementOf 59 = .ok (.getfield 332, 3) := by decide +kernel
theorem dX8_judgementOf_62 : decode cX8_judgementOf 62 = .ok (.iconst 1, 1) := by decide +kernel
theorem dX8_judgementOf_63 : decode cX8_judgementOf 63 = .ok (.iadd, 1) := by decide +kernel
theorem dX8_judgementOf_64 : decode cX8_judgementOf 64 = .ok (.if_icmp .le 5, 3) := by decide +kernel
theorem dX8_judgementOf_67 : decode cX8_judgementOf 67 = .ok (.iconst 3, 1) := by decide +kernel
theorem dX8_judgementOf_68 : decode cX8_judgementOf 68 = .ok (.ireturn, 1) := by decide +kernel
theorem dX8_judgementOf_69 : decode cX8_judgementOf 69 = .ok (.aload 4, 2) := by decide +kernel
theorem dX8_judgementOf_71 : decode cX8_judgementOf 71 = .ok (.getfield 335, 3) := by decide +kernel
theorem dX8_judgementOf_74 : decode cX8_judgementOf 74 = .ok (.ifCond .eq 22, 3) := by decide +kernel
theorem dX8_judgementOf_77 : decode cX8_judgementOf 77 = .ok (.iload 5, 2) := by decide +kernel
theorem dX8_judgementOf_79 : decode cX8_judgementOf 79 = .ok (.iconst 1, 1) := by decide +kernel
theorem dX8_judgementOf_80 : decode cX8_judgementOf 80 = .ok (.if_icmp .le 16, 3) := by decide +kernel
theorem dX8_judgementOf_83 : decode cX8_judgementOf 83 = .ok (.aload_n 0, 1) := by decide +kernel
theorem dX8_judgementOf_84 : decode cX8_judgementOf 84 = .ok (.aload_n 1, 1) := by decide +kernel
theorem dX8_judgementOf_85 : decode cX8_judgementOf 85 = .ok (.iload_n 2, 1) := by decide +kernel
theorem dX8_judgementOf_86 : decode cX8_judgementOf 86 = .ok (.invokevirtual 338, 3) := by decide +kernel
theorem dX8_judgementOf_89 : decode cX8_judgementOf 89 = .ok (.ifCond .ne 7, 3) := by decide +kernel
theorem dX8_judgementOf_92 : decode cX8_judgementOf 92 = .ok (.iconst 4, 1) := by decide +kernel
theorem dX8_judgementOf_93 : decode cX8_judgementOf 93 = .ok (.goto 4, 3) := by decide +kernel
theorem dX8_judgementOf_96 : decode cX8_judgementOf 96 = .ok (.iconst 0, 1) := by decide +kernel
theorem dX8_judgementOf_97 : decode cX8_judgementOf 97 = .ok (.ireturn, 1) := by decide +kernel
theorem dX8_isForbidden_0 : decode cX8_isForbidden 0 = .ok (.aload_n 0, 1) := by decide +kernel
theorem dX8_isForbidden_1 : decode cX8_isForbidden 1 = .ok (.aload_n 1, 1) := by decide +kernel
theorem dX8_isForbidden_2 : decode cX8_isForbidden 2 = .ok (.getfield 263, 3) := by decide +kernel
theorem dX8_isForbidden_5 : decode cX8_isForbidden 5 = .ok (.aload_n 1, 1) := by decide +kernel
theorem dX8_isForbidden_6 : decode cX8_isForbidden 6 = .ok (.getfield 226, 3) := by decide +kernel
theorem dX8_isForbidden_9 : decode cX8_isForbidden 9 = .ok (.iload_n 2, 1) := by decide +kernel
theorem dX8_isForbidden_10 : decode cX8_isForbidden 10 = .ok (.invokevirtual 165, 3) := by decide +kernel
theorem dX8_isForbidden_13 : decode cX8_isForbidden 13 = .ok (.istore_n 3, 1) := by decide +kernel
theorem dX8_isForbidden_14 : decode cX8_isForbidden 14 = .ok (.iconst 0, 1) := by decide +kernel
theorem dX8_isForbidden_15 : decode cX8_isForbidden 15 = .ok (.istore 4, 2) := by decide +kernel
theorem dX8_isForbidden_17 : decode cX8_isForbidden 17 = .ok (.iload 4, 2) := by decide +kernel
theorem dX8_isForbidden_19 : decode cX8_isForbidden 19 = .ok (.aload_n 1, 1) := by decide +kernel
theorem dX8_isForbidden_20 : decode cX8_isForbidden 20 = .ok (.getfield 263, 3) := by decide +kernel
theorem dX8_isForbidden_23 : decode cX8_isForbidden 23 = .ok (.getfield 173, 3) := by decide +kernel
theorem dX8_isForbidden_26 : decode cX8_isForbidden 26 = .ok (.if_icmp .ge 43, 3) := by decide +kernel
theorem dX8_isForbidden_29 : decode cX8_isForbidden 29 = .ok (.aload_n 0, 1) := by decide +kernel
theorem dX8_isForbidden_30 : decode cX8_isForbidden 30 = .ok (.aload_n 1, 1) := by decide +kernel
theorem dX8_isForbidden_31 : decode cX8_isForbidden 31 = .ok (.getfield 226, 3) := by decide +kernel
theorem dX8_isForbidden_34 : decode cX8_isForbidden 34 = .ok (.aload_n 1, 1) := by decide +kernel
theorem dX8_isForbidden_35 : decode cX8_isForbidden 35 = .ok (.getfield 325, 3) := by decide +kernel
theorem dX8_isForbidden_38 : decode cX8_isForbidden 38 = .ok (.iload 4, 2) := by decide +kernel
theorem dX8_isForbidden_40 : decode cX8_isForbidden 40 = .ok (.iadd, 1) := by decide +kernel
theorem dX8_isForbidden_41 : decode cX8_isForbidden 41 = .ok (.iload_n 2, 1) := by decide +kernel
theorem dX8_isForbidden_42 : decode cX8_isForbidden 42 = .ok (.invokevirtual 130, 3) := by decide +kernel
theorem dX8_isForbidden_45 : decode cX8_isForbidden 45 = .ok (.astore 5, 2) := by decide +kernel
theorem dX8_isForbidden_47 : decode cX8_isForbidden 47 = .ok (.aload 5, 2) := by decide +kernel
theorem dX8_isForbidden_49 : decode cX8_isForbidden 49 = .ok (.ifnull 14, 3) := by decide +kernel
theorem dX8_isForbidden_52 : decode cX8_isForbidden 52 = .ok (.aload 5, 2) := by decide +kernel
theorem dX8_isForbidden_54 : decode cX8_isForbidden 54 = .ok (.iload_n 3, 1) := by decide +kernel
theorem dX8_isForbidden_55 : decode cX8_isForbidden 55 = .ok (.invokevirtual 341, 3) := by decide +kernel
theorem dX8_isForbidden_58 : decode cX8_isForbidden 58 = .ok (.ifCond .ne 5, 3) := by decide +kernel
theorem dX8_isForbidden_61 : decode cX8_isForbidden 61 = .ok (.iconst 1, 1) := by decide +kernel
theorem dX8_isForbidden_62 : decode cX8_isForbidden 62 = .ok (.ireturn, 1) := by decide +kernel
theorem dX8_isForbidden_63 : decode cX8_isForbidden 63 = .ok (.iinc 4 1, 3) := by decide +kernel
theorem dX8_isForbidden_66 : decode cX8_isForbidden 66 = .ok (.goto (-49), 3) := by decide +kernel
theorem dX8_isForbidden_69 : decode cX8_isForbidden 69 = .ok (.iconst 0, 1) := by decide +kernel
theorem dX8_isForbidden_70 : decode cX8_isForbidden 70 = .ok (.ireturn, 1) := by decide +kernel
theorem dX8_isPaidFor_0 : decode cX8_isPaidFor 0 = .ok (.iconst 0, 1) := by decide +kernel
theorem dX8_isPaidFor_1 : decode cX8_isPaidFor 1 = .ok (.istore_n 3, 1) := by decide +kernel
theorem dX8_isPaidFor_2 : decode cX8_isPaidFor 2 = .ok (.iload_n 3, 1) := by decide +kernel
theorem dX8_isPaidFor_3 : decode cX8_isPaidFor 3 = .ok (.aload_n 0, 1) := by decide +kernel
theorem dX8_isPaidFor_4 : decode cX8_isPaidFor 4 = .ok (.getfield 25, 3) := by decide +kernel
theorem dX8_isPaidFor_7 : decode cX8_isPaidFor 7 = .ok (.invokevirtual 88, 3) := by decide +kernel
theorem dX8_isPaidFor_10 : decode cX8_isPaidFor 10 = .ok (.if_icmp .ge 60, 3) := by decide +kernel
theorem dX8_isPaidFor_13 : decode cX8_isPaidFor 13 = .ok (.aload_n 0, 1) := by decide +kernel
theorem dX8_isPaidFor_14 : decode cX8_isPaidFor 14 = .ok (.getfield 25, 3) := by decide +kernel
theorem dX8_isPaidFor_17 : decode cX8_isPaidFor 17 = .ok (.iload_n 3, 1) := by decide +kernel
theorem dX8_isPaidFor_18 : decode cX8_isPaidFor 18 = .ok (.invokevirtual 122, 3) := by decide +kernel
theorem dX8_isPaidFor_21 : decode cX8_isPaidFor 21 = .ok (.checkcast 205, 3) := by decide +kernel
theorem dX8_isPaidFor_24 : decode cX8_isPaidFor 24 = .ok (.astore 4, 2) := by decide +kernel
theorem dX8_isPaidFor_26 : decode cX8_isPaidFor 26 = .ok (.aload 4, 2) := by decide +kernel
theorem dX8_isPaidFor_28 : decode cX8_isPaidFor 28 = .ok (.getfield 344, 3) := by decide +kernel
theorem dX8_isPaidFor_31 : decode cX8_isPaidFor 31 = .ok (.aload_n 1, 1) := by decide +kernel
theorem dX8_isPaidFor_32 : decode cX8_isPaidFor 32 = .ok (.getfield 263, 3) := by decide +kernel
theorem dX8_isPaidFor_35 : decode cX8_isPaidFor 35 = .ok (.getfield 145, 3) := by decide +kernel
theorem dX8_isPaidFor_38 : decode cX8_isPaidFor 38 = .ok (.if_icmp .ne 26, 3) := by decide +kernel
theorem dX8_isPaidFor_41 : decode cX8_isPaidFor 41 = .ok (.aload 4, 2) := by decide +kernel
theorem dX8_isPaidFor_43 : decode cX8_isPaidFor 43 = .ok (.getfield 345, 3) := by decide +kernel
theorem dX8_isPaidFor_46 : decode cX8_isPaidFor 46 = .ok (.aload_n 1, 1) := by decide +kernel
theorem dX8_isPaidFor_47 : decode cX8_isPaidFor 47 = .ok (.getfield 226, 3) := by decide +kernel
theorem dX8_isPaidFor_50 : decode cX8_isPaidFor 50 = .ok (.if_icmp .ne 14, 3) := by decide +kernel
theorem dX8_isPaidFor_53 : decode cX8_isPaidFor 53 = .ok (.aload 4, 2) := by decide +kernel
theorem dX8_isPaidFor_55 : decode cX8_isPaidFor 55 = .ok (.iload_n 2, 1) := by decide +kernel
theorem dX8_isPaidFor_56 : decode cX8_isPaidFor 56 = .ok (.invokevirtual 346, 3) := by decide +kernel
theorem dX8_isPaidFor_59 : decode cX8_isPaidFor 59 = .ok (.ifCond .eq 5, 3) := by decide +kernel
theorem dX8_isPaidFor_62 : decode cX8_isPaidFor 62 = .ok (.iconst 1, 1) := by decide +kernel
theorem dX8_isPaidFor_63 : decode cX8_isPaidFor 63 = .ok (.ireturn, 1) := by decide +kernel
theorem dX8_isPaidFor_64 : decode cX8_isPaidFor 64 = .ok (.iinc 3 1, 3) := by decide +kernel
theorem dX8_isPaidFor_67 : decode cX8_isPaidFor 67 = .ok (.goto (-65), 3) := by decide +kernel
theorem dX8_isPaidFor_70 : decode cX8_isPaidFor 70 = .ok (.iconst 0, 1) := by decide +kernel
theorem dX8_isPaidFor_71 : decode cX8_isPaidFor 71 = .ok (.ireturn, 1) := by decide +kernel
theorem dX8_lookAt_0 : decode cX8_lookAt 0 = .ok (.aload_n 0, 1) := by decide +kernel
theorem dX8_lookAt_1 : decode cX8_lookAt 1 = .ok (.aload_n 1, 1) := by decide +kernel
theorem dX8_lookAt_2 : decode cX8_lookAt 2 = .ok (.aload_n 0, 1) := by decide +kernel
theorem dX8_lookAt_3 : decode cX8_lookAt 3 = .ok (.getfield 38, 3) := by decide +kernel
theorem dX8_lookAt_6 : decode cX8_lookAt 6 = .ok (.aload_n 0, 1) := by decide +kernel
theorem dX8_lookAt_7 : decode cX8_lookAt 7 = .ok (.aload_n 1, 1) := by decide +kernel
theorem dX8_lookAt_8 : decode cX8_lookAt 8 = .ok (.invokevirtual 216, 3) := by decide +kernel
theorem dX8_lookAt_11 : decode cX8_lookAt 11 = .ok (.invokevirtual 220, 3) := by decide +kernel
theorem dX8_lookAt_14 : decode cX8_lookAt 14 = .ok (.istore_n 3, 1) := by decide +kernel
theorem dX8_lookAt_15 : decode cX8_lookAt 15 = .ok (.aload_n 0, 1) := by decide +kernel
theorem dX8_lookAt_16 : decode cX8_lookAt 16 = .ok (.getfield 38, 3) := by decide +kernel
theorem dX8_lookAt_19 : decode cX8_lookAt 19 = .ok (.bipush 96, 2) := by decide +kernel
theorem dX8_lookAt_21 : decode cX8_lookAt 21 = .ok (.idiv, 1) := by decide +kernel
theorem dX8_lookAt_22 : decode cX8_lookAt 22 = .ok (.istore 4, 2) := by decide +kernel
theorem dX8_lookAt_24 : decode cX8_lookAt 24 = .ok (.iload_n 3, 1) := by decide +kernel
theorem dX8_lookAt_25 : decode cX8_lookAt 25 = .ok (.ifCond .eq 24, 3) := by decide +kernel
theorem dX8_lookAt_28 : decode cX8_lookAt 28 = .ok (.aload_n 1, 1) := by decide +kernel
theorem dX8_lookAt_29 : decode cX8_lookAt 29 = .ok (.getfield 349, 3) := by decide +kernel
theorem dX8_lookAt_32 : decode cX8_lookAt 32 = .ok (.iload 4, 2) := by decide +kernel
theorem dX8_lookAt_34 : decode cX8_lookAt 34 = .ok (.if_icmp .eq 15, 3) := by decide +kernel
theorem dX8_lookAt_37 : decode cX8_lookAt 37 = .ok (.aload_n 0, 1) := by decide +kernel
theorem dX8_lookAt_38 : decode cX8_lookAt 38 = .ok (.getfield 28, 3) := by decide +kernel
theorem dX8_lookAt_41 : decode cX8_lookAt 41 = .ok (.invokevirtual 88, 3) := by decide +kernel
theorem dX8_lookAt_44 : decode cX8_lookAt 44 = .ok (.bipush 60, 2) := by decide +kernel
theorem dX8_lookAt_46 : decode cX8_lookAt 46 = .ok (.if_icmp .lt 4, 3) := by decide +kernel
theorem dX8_lookAt_49 : decode cX8_lookAt 49 = .ok (.return_, 1) := by decide +kernel
theorem dX8_lookAt_50 : decode cX8_lookAt 50 = .ok (.aload_n 0, 1) := by decide +kernel
theorem dX8_lookAt_51 : decode cX8_lookAt 51 = .ok (.getfield 28, 3) := by decide +kernel
theorem dX8_lookAt_54 : decode cX8_lookAt 54 = .ok (.new 238, 3) := by decide +kernel
theorem dX8_lookAt_57 : decode cX8_lookAt 57 = .ok (.dup, 1) := by decide +kernel
theorem dX8_lookAt_58 : decode cX8_lookAt 58 = .ok (.aload_n 1, 1) := by decide +kernel
theorem dX8_lookAt_59 : decode cX8_lookAt 59 = .ok (.aload_n 0, 1) := by decide +kernel
theorem dX8_lookAt_60 : decode cX8_lookAt 60 = .ok (.getfield 38, 3) := by decide +kernel
theorem dX8_lookAt_63 : decode cX8_lookAt 63 = .ok (.iload_n 3, 1) := by decide +kernel
theorem dX8_lookAt_64 : decode cX8_lookAt 64 = .ok (.invokespecial 352, 3) := by decide +kernel
theorem dX8_lookAt_67 : decode cX8_lookAt 67 = .ok (.invokevirtual 45, 3) := by decide +kernel
theorem dX8_lookAt_70 : decode cX8_lookAt 70 = .ok (.pop, 1) := by decide +kernel
theorem dX8_lookAt_71 : decode cX8_lookAt 71 = .ok (.aload_n 1, 1) := by decide +kernel
theorem dX8_lookAt_72 : decode cX8_lookAt 72 = .ok (.iload 4, 2) := by decide +kernel
theorem dX8_lookAt_74 : decode cX8_lookAt 74 = .ok (.putfield 349, 3) := by decide +kernel
theorem dX8_lookAt_77 : decode cX8_lookAt 77 = .ok (.aload_n 2, 1) := by decide +kernel
theorem dX8_lookAt_78 : decode cX8_lookAt 78 = .ok (.dup, 1) := by decide +kernel
theorem dX8_lookAt_79 : decode cX8_lookAt 79 = .ok (.getfield 224, 3) := by decide +kernel
theorem dX8_lookAt_82 : decode cX8_lookAt 82 = .ok (.iconst 1, 1) := by decide +kernel
theorem dX8_lookAt_83 : decode cX8_lookAt 83 = .ok (.iadd, 1) := by decide +kernel
theorem dX8_lookAt_84 : decode cX8_lookAt 84 = .ok (.putfield 224, 3) := by decide +kernel
theorem dX8_lookAt_87 : decode cX8_lookAt 87 = .ok (.return_, 1) := by decide +kernel
theorem dX8_debtOf_0 : decode cX8_debtOf 0 = .ok (.iconst 0, 1) := by decide +kernel
theorem dX8_debtOf_1 : decode cX8_debtOf 1 = .ok (.istore_n 2, 1) := by decide +kernel
theorem dX8_debtOf_2 : decode cX8_debtOf 2 = .ok (.iconst 0, 1) := by decide +kernel
theorem dX8_debtOf_3 : decode cX8_debtOf 3 = .ok (.istore_n 3, 1) := by decide +kernel
theorem dX8_debtOf_4 : decode cX8_debtOf 4 = .ok (.iload_n 3, 1) := by decide +kernel
theorem dX8_debtOf_5 : decode cX8_debtOf 5 = .ok (.aload_n 0, 1) := by decide +kernel
theorem dX8_debtOf_6 : decode cX8_debtOf 6 = .ok (.getfield 28, 3) := by decide +kernel
theorem dX8_debtOf_9 : decode cX8_debtOf 9 = .ok (.invokevirtual 88, 3) := by decide +kernel
theorem dX8_debtOf_12 : decode cX8_debtOf 12 = .ok (.if_icmp .ge 56, 3) := by decide +kernel
theorem dX8_debtOf_15 : decode cX8_debtOf 15 = .ok (.aload_n 0, 1) := by decide +kernel
theorem dX8_debtOf_16 : decode cX8_debtOf 16 = .ok (.getfield 28, 3) := by decide +kernel
theorem dX8_debtOf_19 : decode cX8_debtOf 19 = .ok (.iload_n 3, 1) := by decide +kernel
theorem dX8_debtOf_20 : decode cX8_debtOf 20 = .ok (.invokevirtual 122, 3) := by decide +kernel
theorem dX8_debtOf_23 : decode cX8_debtOf 23 = .ok (.checkcast 238, 3) := by decide +kernel
theorem dX8_debtOf_26 : decode cX8_debtOf 26 = .ok (.astore 4, 2) := by decide +kernel
theorem dX8_debtOf_28 : decode cX8_debtOf 28 = .ok (.aload 4, 2) := by decide +kernel
theorem dX8_debtOf_30 : decode cX8_debtOf 30 = .ok (.getfield 249, 3) := by decide +kernel
theorem dX8_debtOf_33 : decode cX8_debtOf 33 = .ok (.getfield 263, 3) := by decide +kernel
theorem dX8_debtOf_36 : decode cX8_debtOf 36 = .ok (.getfield 145, 3) := by decide +kernel
theorem dX8_debtOf_39 : decode cX8_debtOf 39 = .ok (.aload_n 1, 1) := by decide +kernel
theorem dX8_debtOf_40 : decode cX8_debtOf 40 = .ok (.getfield 145, 3) := by decide +kernel
theorem dX8_debtOf_43 : decode cX8_debtOf 43 = .ok (.if_icmp .ne 19, 3) := by decide +kernel
theorem dX8_debtOf_46 : decode cX8_debtOf 46 = .ok (.aload 4, 2) := by decide +kernel
theorem dX8_debtOf_48 : decode cX8_debtOf 48 = .ok (.invokevirtual 256, 3) := by decide +kernel
theorem dX8_debtOf_51 : decode cX8_debtOf 51 = .ok (.ifCond .eq 11, 3) := by decide +kernel
theorem dX8_debtOf_54 : decode cX8_debtOf 54 = .ok (.iload_n 2, 1) := by decide +kernel
theorem dX8_debtOf_55 : decode cX8_debtOf 55 = .ok (.aload 4, 2) := by decide +kernel
theorem dX8_debtOf_57 : decode cX8_debtOf 57 = .ok (.invokevirtual 260, 3) := by decide +kernel
theorem dX8_debtOf_60 : decode cX8_debtOf 60 = .ok (.iadd, 1) := by decide +kernel
theorem dX8_debtOf_61 : decode cX8_debtOf 61 = .ok (.istore_n 2, 1) := by decide +kernel
theorem dX8_debtOf_62 : decode cX8_debtOf 62 = .ok (.iinc 3 1, 3) := by decide +kernel
theorem dX8_debtOf_65 : decode cX8_debtOf 65 = .ok (.goto (-61), 3) := by decide +kernel
theorem dX8_debtOf_68 : decode cX8_debtOf 68 = .ok (.iload_n 2, 1) := by decide +kernel
theorem dX8_debtOf_69 : decode cX8_debtOf 69 = .ok (.ireturn, 1) := by decide +kernel
theorem dX8_passQuarter_0 : decode cX8_passQuarter 0 = .ok (.aload_n 0, 1) := by decide +kernel
theorem dX8_passQuarter_1 : decode cX8_passQuarter 1 = .ok (.dup, 1) := by decide +kernel
theorem dX8_passQuarter_2 : decode cX8_passQuarter 2 = .ok (.getfield 38, 3) := by decide +kernel
theorem dX8_passQuarter_5 : decode cX8_passQuarter 5 = .ok (.iconst 1, 1) := by decide +kernel
theorem dX8_passQuarter_6 : decode cX8_passQuarter 6 = .ok (.iadd, 1) := by decide +kernel
theorem dX8_passQuarter_7 : decode cX8_passQuarter 7 = .ok (.putfield 38, 3) := by decide +kernel
theorem dX8_passQuarter_10 : decode cX8_passQuarter 10 = .ok (.aload_n 0, 1) := by decide +kernel
theorem dX8_passQuarter_11 : decode cX8_passQuarter 11 = .ok (.getfield 38, 3) := by decide +kernel
theorem dX8_passQuarter_14 : decode cX8_passQuarter 14 = .ok (.bipush 96, 2) := by decide +kernel
theorem dX8_passQuarter_16 : decode cX8_passQuarter 16 = .ok (.irem, 1) := by decide +kernel
theorem dX8_passQuarter_17 : decode cX8_passQuarter 17 = .ok (.ifCond .ne 7, 3) := by decide +kernel
theorem dX8_passQuarter_20 : decode cX8_passQuarter 20 = .ok (.iconst 1, 1) := by decide +kernel
theorem dX8_passQuarter_21 : decode cX8_passQuarter 21 = .ok (.goto 4, 3) := by decide +kernel
theorem dX8_passQuarter_24 : decode cX8_passQuarter 24 = .ok (.iconst 0, 1) := by decide +kernel
theorem dX8_passQuarter_25 : decode cX8_passQuarter 25 = .ok (.istore_n 1, 1) := by decide +kernel
theorem dX8_passQuarter_26 : decode cX8_passQuarter 26 = .ok (.iconst 0, 1) := by decide +kernel
theorem dX8_passQuarter_27 : decode cX8_passQuarter 27 = .ok (.istore_n 2, 1) := by decide +kernel
theorem dX8_passQuarter_28 : decode cX8_passQuarter 28 = .ok (.iload_n 2, 1) := by decide +kernel
theorem dX8_passQuarter_29 : decode cX8_passQuarter 29 = .ok (.aload_n 0, 1) := by decide +kernel
theorem dX8_passQuarter_30 : decode cX8_passQuarter 30 = .ok (.getfield 12, 3) := by decide +kernel
theorem dX8_passQuarter_33 : decode cX8_passQuarter 33 = .ok (.invokevirtual 88, 3) := by decide +kernel
theorem dX8_passQuarter_36 : decode cX8_passQuarter 36 = .ok (.if_icmp .ge 42, 3) := by decide +kernel
theorem dX8_passQuarter_39 : decode cX8_passQuarter 39 = .ok (.aload_n 0, 1) := by decide +kernel
theorem dX8_passQuarter_40 : decode cX8_passQuarter 40 = .ok (.getfield 12, 3) := by decide +kernel
theorem dX8_passQuarter_43 : decode cX8_passQuarter 43 = .ok (.iload_n 2, 1) := by decide +kernel
theorem dX8_passQuarter_44 : decode cX8_passQuarter 44 = .ok (.invokevirtual 122, 3) := by decide +kernel
theorem dX8_passQuarter_47 : decode cX8_passQuarter 47 = .ok (.checkcast 42, 3) := by decide +kernel
theorem dX8_passQuarter_50 : decode cX8_passQuarter 50 = .ok (.astore_n 3, 1) := by decide +kernel
theorem dX8_passQuarter_51 : decode cX8_passQuarter 51 = .ok (.aload_n 3, 1) := by decide +kernel
theorem dX8_passQuarter_52 : decode cX8_passQuarter 52 = .ok (.dup, 1) := by decide +kernel
theorem dX8_passQuarter_53 : decode cX8_passQuarter 53 = .ok (.getfield 277, 3) := by decide +kernel
theorem dX8_passQuarter_56 : decode cX8_passQuarter 56 = .ok (.aload_n 3, 1) := by decide +kernel
theorem dX8_passQuarter_57 : decode cX8_passQuarter 57 = .ok (.getfield 184, 3) := by decide +kernel
theorem dX8_passQuarter_60 : decode cX8_passQuarter 60 = .ok (.iadd, 1) := by decide +kernel
theorem dX8_passQuarter_61 : decode cX8_passQuarter 61 = .ok (.putfield 277, 3) := by decide +kernel
theorem dX8_passQuarter_64 : decode cX8_passQuarter 64 = .ok (.iload_n 1, 1) := by decide +kernel
theorem dX8_passQuarter_65 : decode cX8_passQuarter 65 = .ok (.ifCond .eq 7, 3) := by decide +kernel
theorem dX8_passQuarter_68 : decode cX8_passQuarter 68 = .ok (.aload_n 3, 1) := by decide +kernel
theorem dX8_passQuarter_69 : decode cX8_passQuarter 69 = .ok (.invokevirtual 355, 3) := by decide +kernel
theorem dX8_passQuarter_72 : decode cX8_passQuarter 72 = .ok (.iinc 2 1, 3) := by decide +kernel
theorem dX8_passQuarter_75 : decode cX8_passQuarter 75 = .ok (.goto (-47), 3) := by decide +kernel
theorem dX8_passQuarter_78 : decode cX8_passQuarter 78 = .ok (.return_, 1) := by decide +kernel
theorem dX9_init_0 : decode cX9_init 0 = .ok (.aload_n 0, 1) := by decide +kernel
theorem dX9_init_1 : decode cX9_init 1 = .ok (.invokespecial 1, 3) := by decide +kernel
theorem dX9_init_4 : decode cX9_init 4 = .ok (.aload_n 0, 1) := by decide +kernel
theorem dX9_init_5 : decode cX9_init 5 = .ok (.sipush 240, 3) := by decide +kernel
theorem dX9_init_8 : decode cX9_init 8 = .ok (.newarray .boolean, 2) := by decide +kernel
theorem dX9_init_10 : decode cX9_init 10 = .ok (.putfield 7, 3) := by decide +kernel
theorem dX9_init_13 : decode cX9_init 13 = .ok (.aload_n 0, 1) := by decide +kernel
theorem dX9_init_14 : decode cX9_init 14 = .ok (.bipush 30, 2) := by decide +kernel
theorem dX9_init_16 : decode cX9_init 16 = .ok (.newarray .int, 2) := by decide +kernel
theorem dX9_init_18 : decode cX9_init 18 = .ok (.putfield 13, 3) := by decide +kernel
theorem dX9_init_21 : decode cX9_init 21 = .ok (.aload_n 0, 1) := by decide +kernel
theorem dX9_init_22 : decode cX9_init 22 = .ok (.bipush 30, 2) := by decide +kernel
theorem dX9_init_24 : decode cX9_init 24 = .ok (.newarray .int, 2) := by decide +kernel
theorem dX9_init_26 : decode cX9_init 26 = .ok (.putfield 17, 3) := by decide +kernel
theorem dX9_init_29 : decode cX9_init 29 = .ok (.aload_n 0, 1) := by decide +kernel
theorem dX9_init_30 : decode cX9_init 30 = .ok (.bipush 30, 2) := by decide +kernel
theorem dX9_init_32 : decode cX9_init 32 = .ok (.newarray .int, 2) := by decide +kernel
theorem dX9_init_34 : decode cX9_init 34 = .ok (.putfield 20, 3) := by decide +kernel
theorem dX9_init_37 : decode cX9_init 37 = .ok (.aload_n 0, 1) := by decide +kernel
theorem dX9_init_38 : decode cX9_init 38 = .ok (.bipush 30, 2) := by decide +kernel
theorem dX9_init_40 : decode cX9_init 40 = .ok (.newarray .int, 2) := by decide +kernel
theorem dX9_init_42 : decode cX9_init 42 = .ok (.putfield 23, 3) := by decide +kernel
theorem dX9_init_45 : decode cX9_init 45 = .ok (.aload_n 0, 1) := by decide +kernel
theorem dX9_init_46 : decode cX9_init 46 = .ok (.bipush 30, 2) := by decide +kernel
theorem dX9_init_48 : decode cX9_init 48 = .ok (.newarray .int, 2) := by decide +kernel
theorem dX9_init_50 : decode cX9_init 50 = .ok (.putfield 26, 3) := by decide +kernel
theorem dX9_init_53 : decode cX9_init 53 = .ok (.aload_n 0, 1) := by decide +kernel
theorem dX9_init_54 : decode cX9_init 54 = .ok (.bipush 30, 2) := by decide +kernel
theorem dX9_init_56 : decode cX9_init 56 = .ok (.newarray .boolean, 2) := by decide +kernel
theorem dX9_init_58 : decode cX9_init 58 = .ok (.putfield 29, 3) := by decide +kernel
theorem dX9_init_61 : decode cX9_init 61 = .ok (.aload_n 0, 1) := by decide +kernel
theorem dX9_init_62 : decode cX9_init 62 = .ok (.bipush 30, 2) := by decide +kernel
theorem dX9_init_64 : decode cX9_init 64 = .ok (.newarray .boolean, 2) := by decide +kernel
theorem dX9_init_66 : decode cX9_init 66 = .ok (.putfield 32, 3) := by decide +kernel
theorem dX9_init_69 : decode cX9_init 69 = .ok (.aload_n 0, 1) := by decide +kernel
theorem dX9_init_70 : decode cX9_init 70 = .ok (.bipush 30, 2) := by decide +kernel
theorem dX9_init_72 : decode cX9_init 72 = .ok (.newarray .int, 2) := by decide +kernel
theorem dX9_init_74 : decode cX9_init 74 = .ok (.putfield 35, 3) := by decide +kernel
theorem dX9_init_77 : decode cX9_init 77 = .ok (.aload_n 0, 1) := by decide +kernel
theorem dX9_init_78 : decode cX9_init 78 = .ok (.bipush 30, 2) := by decide +kernel
theorem dX9_init_80 : decode cX9_init 80 = .ok (.newarray .int, 2) := by decide +kernel
theorem dX9_init_82 : decode cX9_init 82 = .ok (.putfield 38, 3) := by decide +kernel
theorem dX9_init_85 : decode cX9_init 85 = .ok (.aload_n 0, 1) := by decide +kernel
theorem dX9_init_86 : decode cX9_init 86 = .ok (.bipush 30, 2) := by decide +kernel
theorem dX9_init_88 : decode cX9_init 88 = .ok (.newarray .int, 2) := by decide +kernel
theorem dX9_init_90 : decode cX9_init 90 = .ok (.putfield 41, 3) := by decide +kernel
theorem dX9_init_93 : decode cX9_init 93 = .ok (.aload_n 0, 1) := by decide +kernel
theorem dX9_init_94 : decode cX9_init 94 = .ok (.bipush 30, 2) := by decide +kernel
theorem dX9_init_96 : decode cX9_init 96 = .ok (.newarray .int, 2) := by decide +kernel
theorem dX9_init_98 : decode cX9_init 98 = .ok (.putfield 44, 3) := by decide +kernel
theorem dX9_init_101 : decode cX9_init 101 = .ok (.aload_n 0, 1) := by decide +kernel
theorem dX9_init_102 : decode cX9_init 102 = .ok (.bipush 30, 2) := by decide +kernel
theorem dX9_init_104 : decode cX9_init 104 = .ok (.newarray .int, 2) := by decide +kernel
theorem dX9_init_106 : decode cX9_init 106 = .ok (.putfield 47, 3) := by decide +kernel
theorem dX9_init_109 : decode cX9_init 109 = .ok (.aload_n 0, 1) := by decide +kernel
theorem dX9_init_110 : decode cX9_init 110 = .ok (.bipush 30, 2) := by decide +kernel
theorem dX9_init_112 : decode cX9_init 112 = .ok (.newarray .int, 2) := by decide +kernel
theorem dX9_init_114 : decode cX9_init 114 = .ok (.putfield 50, 3) := by decide +kernel
theorem dX9_init_117 : decode cX9_init 117 = .ok (.aload_n 0, 1) := by decide +kernel
theorem dX9_init_118 : decode cX9_init 118 = .ok (.bipush 30, 2) := by decide +kernel
theorem dX9_init_120 : decode cX9_init 120 = .ok (.newarray .int, 2) := by decide +kernel
theorem dX9_init_122 : decode cX9_init 122 = .ok (.putfield 53, 3) := by decide +kernel
theorem dX9_init_125 : decode cX9_init 125 = .ok (.aload_n 0, 1) := by decide +kernel
theorem dX9_init_126 : decode cX9_init 126 = .ok (.bipush 30, 2) := by decide +kernel
theorem dX9_init_128 : decode cX9_init 128 = .ok (.newarray .int, 2) := by decide +kernel
theorem dX9_init_130 : decode cX9_init 130 = .ok (.putfield 56, 3) := by decide +kernel
theorem dX9_init_133 : decode cX9_init 133 = .ok (.aload_n 0, 1) := by decide +kernel
theorem dX9_init_134 : decode cX9_init 134 = .ok (.bipush 30, 2) := by decide +kernel
theorem dX9_init_136 : decode cX9_init 136 = .ok (.newarray .int, 2) := by decide +kernel
theorem dX9_init_138 : decode cX9_init 138 = .ok (.putfield 59, 3) := by decide +kernel
theorem dX9_init_141 : decode cX9_init 141 = .ok (.aload_n 0, 1) := by decide +kernel
theorem dX9_init_142 : decode cX9_init 142 = .ok (.bipush 30, 2) := by decide +kernel
theorem dX9_init_144 : decode cX9_init 144 = .ok (.newarray .int, 2) := by decide +kernel
theorem dX9_init_146 : decode cX9_init 146 = .ok (.putfield 62, 3) := by decide +kernel
theorem dX9_init_149 : decode cX9_init 149 = .ok (.aload_n 0, 1) := by decide +kernel
theorem dX9_init_150 : decode cX9_init 150 = .ok (.bipush 30, 2) := by decide +kernel
theorem dX9_init_152 : decode cX9_init 152 = .ok (.newarray .int, 2) := by decide +kernel
theorem dX9_init_154 : decode cX9_init 154 = .ok (.putfield 65, 3) := by decide +kernel
theorem dX9_init_157 : decode cX9_init 157 = .ok (.aload_n 0, 1) := by decide +kernel
theorem dX9_init_158 : decode cX9_init 158 = .ok (.bipush 30, 2) := by decide +kernel
theorem dX9_init_160 : decode cX9_init 160 = .ok (.newarray .int, 2) := by decide +kernel
theorem dX9_init_162 : decode cX9_init 162 = .ok (.putfield 68, 3) := by decide +kernel
theorem dX9_init_165 : decode cX9_init 165 = .ok (.aload_n 0, 1) := by decide +kernel
theorem dX9_init_166 : decode cX9_init 166 = .ok (.bipush 30, 2) := by decide +kernel
theorem dX9_init_168 : decode cX9_init 168 = .ok (.newarray .int, 2) := by decide +kernel
theorem dX9_init_170 : decode cX9_init 170 = .ok (.putfield 71, 3) := by decide +kernel
theorem dX9_init_173 : decode cX9_init 173 = .ok (.aload_n 0, 1) := by decide +kernel
theorem dX9_init_174 : decode cX9_init 174 = .ok (.bipush 40, 2) := by decide +kernel
theorem dX9_init_176 : decode cX9_init 176 = .ok (.newarray .int, 2) := by decide +kernel
theorem dX9_init_178 : decode cX9_init 178 = .ok (.putfield 74, 3) := by decide +kernel
theorem dX9_init_181 : decode cX9_init 181 = .ok (.aload_n 0, 1) := by decide +kernel
theorem dX9_init_182 : decode cX9_init 182 = .ok (.bipush 40, 2) := by decide +kernel
theorem dX9_init_184 : decode cX9_init 184 = .ok (.newarray .int, 2) := by decide +kernel
theorem dX9_init_186 : decode cX9_init 186 = .ok (.putfield 77, 3) := by decide +kernel
theorem dX9_init_189 : decode cX9_init 189 = .ok (.aload_n 0, 1) := by decide +kernel
theorem dX9_init_190 : decode cX9_init 190 = .ok (.bipush 40, 2) := by decide +kernel
theorem dX9_init_192 : decode cX9_init 192 = .ok (.newarray .int, 2) := by decide +kernel
theorem dX9_init_194 : decode cX9_init 194 = .ok (.putfield 80, 3) := by decide +kernel
theorem dX9_init_197 : decode cX9_init 197 = .ok (.aload_n 0, 1) := by decide +kernel
theorem dX9_init_198 : decode cX9_init 198 = .ok (.bipush 40, 2) := by decide +kernel
theorem dX9_init_200 : decode cX9_init 200 = .ok (.newarray .int, 2) := by decide +kernel
theorem dX9_init_202 : decode cX9_init 202 = .ok (.putfield 83, 3) := by decide +kernel
theorem dX9_init_205 : decode cX9_init 205 = .ok (.aload_n 0, 1) := by decide +kernel
theorem dX9_init_206 : decode cX9_init 206 = .ok (.bipush 40, 2) := by decide +kernel
theorem dX9_init_208 : decode cX9_init 208 = .ok (.newarray .int, 2) := by decide +kernel
theorem dX9_init_210 : decode cX9_init 210 = .ok (.putfield 86, 3) := by decide +kernel
theorem dX9_init_213 : decode cX9_init 213 = .ok (.aload_n 0, 1) := by decide +kernel
theorem dX9_init_214 : decode cX9_init 214 = .ok (.sipush 200, 3) := by decide +kernel
theorem dX9_init_217 : decode cX9_init 217 = .ok (.newarray .int, 2) := by decide +kernel
theorem dX9_init_219 : decode cX9_init 219 = .ok (.putfield 89, 3) := by decide +kernel
theorem dX9_init_222 : decode cX9_init 222 = .ok (.aload_n 0, 1) := by decide +kernel
theorem dX9_init_223 : decode cX9_init 223 = .ok (.sipush 200, 3) := by decide +kernel
theorem dX9_init_226 : decode cX9_init 226 = .ok (.newarray .int, 2) := by decide +kernel
theorem dX9_init_228 : decode cX9_init 228 = .ok (.putfield 92, 3) := by decide +kernel
theorem dX9_init_231 : decode cX9_init 231 = .ok (.aload_n 0, 1) := by decide +kernel
theorem dX9_init_232 : decode cX9_init 232 = .ok (.sipush 200, 3) := by decide +kernel
theorem dX9_init_235 : decode cX9_init 235 = .ok (.newarray .int, 2) := by decide +kernel
theorem dX9_init_237 : decode cX9_init 237 = .ok (.putfield 95, 3) := by decide +kernel
theorem dX9_init_240 : decode cX9_init 240 = .ok (.aload_n 0, 1) := by decide +kernel
theorem dX9_init_241 : decode cX9_init 241 = .ok (.sipush 200, 3) := by decide +kernel
theorem dX9_init_244 : decode cX9_init 244 = .ok (.newarray .int, 2) := by decide +kernel
theorem dX9_init_246 : decode cX9_init 246 = .ok (.putfield 98, 3) := by decide +kernel
theorem dX9_init_249 : decode cX9_init 249 = .ok (.aload_n 0, 1) := by decide +kernel
theorem dX9_init_250 : decode cX9_init 250 = .ok (.bipush 60, 2) := by decide +kernel
theorem dX9_init_252 : decode cX9_init 252 = .ok (.newarray .int, 2) := by decide +kernel
theorem dX9_init_254 : decode cX9_init 254 = .ok (.putfield 101, 3) := by decide +kernel
theorem dX9_init_257 : decode cX9_init 257 = .ok (.aload_n 0, 1) := by decide +kernel
theorem dX9_init_258 : decode cX9_init 258 = .ok (.bipush 60, 2) := by decide +kernel
theorem dX9_init_260 : decode cX9_init 260 = .ok (.newarray .int, 2) := by decide +kernel
theorem dX9_init_262 : decode cX9_init 262 = .ok (.putfield 104, 3) := by decide +kernel
theorem dX9_init_265 : decode cX9_init 265 = .ok (.aload_n 0, 1) := by decide +kernel
theorem dX9_init_266 : decode cX9_init 266 = .ok (.bipush 60, 2) := by decide +kernel
theorem dX9_init_268 : decode cX9_init 268 = .ok (.newarray .int, 2) := by decide +kernel
theorem dX9_init_270 : decode cX9_init 270 = .ok (.putfield 107, 3) := by decide +kernel
theorem dX9_init_273 : decode cX9_init 273 = .ok (.aload_n 0, 1) := by decide +kernel
theorem dX9_init_274 : decode cX9_init 274 = .ok (.bipush 60, 2) := by decide +kernel
theorem dX9_init_276 : decode cX9_init 276 = .ok (.newarray .int, 2) := by decide +kernel
theorem dX9_init_278 : decode cX9_init 278 = .ok (.putfield 110, 3) := by decide +kernel
theorem dX9_init_281 : decode cX9_init 281 = .ok (.aload_n 0, 1) := by decide +kernel
theorem dX9_init_282 : decode cX9_init 282 = .ok (.bipush 60, 2) := by decide +kernel
theorem dX9_init_284 : decode cX9_init 284 = .ok (.newarray .int, 2) := by decide +kernel
theorem dX9_init_286 : decode cX9_init 286 = .ok (.putfield 113, 3) := by decide +kernel
theorem dX9_init_289 : decode cX9_init 289 = .ok (.aload_n 0, 1) := by decide +kernel
theorem dX9_init_290 : decode cX9_init 290 = .ok (.bipush 60, 2) := by decide +kernel
theorem dX9_init_292 : decode cX9_init 292 = .ok (.newarray .int, 2) := by decide +kernel
theorem dX9_init_294 : decode cX9_init 294 = .ok (.putfield 116, 3) := by decide +kernel
theorem dX9_init_297 : decode cX9_init 297 = .ok (.aload_n 0, 1) := by decide +kernel
theorem dX9_init_298 : decode cX9_init 298 = .ok (.bipush 60, 2) := by decide +kernel
theorem dX9_init_300 : decode cX9_init 300 = .ok (.newarray .int, 2) := by decide +kernel
theorem dX9_init_302 : decode cX9_init 302 = .ok (.putfield 119, 3) := by decide +kernel
theorem dX9_init_305 : decode cX9_init 305 = .ok (.aload_n 0, 1) := by decide +kernel
theorem dX9_init_306 : decode cX9_init 306 = .ok (.bipush 60, 2) := by decide +kernel
theorem dX9_init_308 : decode cX9_init 308 = .ok (.newarray .boolean, 2) := by decide +kernel
theorem dX9_init_310 : decode cX9_init 310 = .ok (.putfield 122, 3) := by decide +kernel
theorem dX9_init_313 : decode cX9_init 313 = .ok (.aload_n 0, 1) := by decide +kernel
theorem dX9_init_314 : decode cX9_init 314 = .ok (.bipush 60, 2) := by decide +kernel
theorem dX9_init_316 : decode cX9_init 316 = .ok (.newarray .boolean, 2) := by decide +kernel
theorem dX9_init_318 : decode cX9_init 318 = .ok (.putfield 125, 3) := by decide +kernel
theorem dX9_init_321 : decode cX9_init 321 = .ok (.aload_n 0, 1) := by decide +kernel
theorem dX9_init_322 : decode cX9_init 322 = .ok (.bipush 60, 2) := by decide +kernel
theorem dX9_init_324 : decode cX9_init 324 = .ok (.newarray .boolean, 2) := by decide +kernel
theorem dX9_init_326 : decode cX9_init 326 = .ok (.putfield 128, 3) := by decide +kernel
theorem dX9_init_329 : decode cX9_init 329 = .ok (.aload_n 0, 1) := by decide +kernel
theorem dX9_init_330 : decode cX9_init 330 = .ok (.bipush 60, 2) := by decide +kernel
theorem dX9_init_332 : decode cX9_init 332 = .ok (.newarray .boolean, 2) := by decide +kernel
theorem dX9_init_334 : decode cX9_init 334 = .ok (.putfield 131, 3) := by decide +kernel
theorem dX9_init_337 : decode cX9_init 337 = .ok (.aload_n 0, 1) := by decide +kernel
theorem dX9_init_338 : decode cX9_init 338 = .ok (.iconst 4, 1) := by decide +kernel
theorem dX9_init_339 : decode cX9_init 339 = .ok (.newarray .int, 2) := by decide +kernel
theorem dX9_init_341 : decode cX9_init 341 = .ok (.putfield 134, 3) := by decide +kernel
theorem dX9_init_344 : decode cX9_init 344 = .ok (.aload_n 0, 1) := by decide +kernel
theorem dX9_init_345 : decode cX9_init 345 = .ok (.iconst 4, 1) := by decide +kernel
theorem dX9_init_346 : decode cX9_init 346 = .ok (.newarray .int, 2) := by decide +kernel
theorem dX9_init_348 : decode cX9_init 348 = .ok (.putfield 137, 3) := by decide +kernel
theorem dX9_init_351 : decode cX9_init 351 = .ok (.aload_n 0, 1) := by decide +kernel
theorem dX9_init_352 : decode cX9_init 352 = .ok (.iconst 4, 1) := by decide +kernel
theorem dX9_init_353 : decode cX9_init 353 = .ok (.newarray .int, 2) := by decide +kernel
theorem dX9_init_355 : decode cX9_init 355 = .ok (.putfield 140, 3) := by decide +kernel
theorem dX9_init_358 : decode cX9_init 358 = .ok (.aload_n 0, 1) := by decide +kernel
theorem dX9_init_359 : decode cX9_init 359 = .ok (.iconst 4, 1) := by decide +kernel
theorem dX9_init_360 : decode cX9_init 360 = .ok (.newarray .int, 2) := by decide +kernel
theorem dX9_init_362 : decode cX9_init 362 = .ok (.putfield 143, 3) := by decide +kernel
theorem dX9_init_365 : decode cX9_init 365 = .ok (.aload_n 0, 1) := by decide +kernel
theorem dX9_init_366 : decode cX9_init 366 = .ok (.invokevirtual 146, 3) := by decide +kernel
theorem dX9_init_369 : decode cX9_init 369 = .ok (.iconst 0, 1) := by decide +kernel
theorem dX9_init_370 : decode cX9_init 370 = .ok (.istore_n 1, 1) := by decide +kernel
theorem dX9_init_371 : decode cX9_init 371 = .ok (.iload_n 1, 1) := by decide +kernel
theorem dX9_init_372 : decode cX9_init 372 = .ok (.iconst 4, 1) := by decide +kernel
theorem dX9_init_373 : decode cX9_init 373 = .ok (.if_icmp .ge 16, 3) := by decide +kernel
theorem dX9_init_376 : decode cX9_init 376 = .ok (.aload_n 0, 1) := by decide +kernel
theorem dX9_init_377 : decode cX9_init 377 = .ok (.getfield 134, 3) := by decide +kernel
theorem dX9_init_380 : decode cX9_init 380 = .ok (.iload_n 1, 1) := by decide +kernel
theorem dX9_init_381 : decode cX9_init 381 = .ok (.iconst 4, 1) := by decide +kernel
theorem dX9_init_382 : decode cX9_init 382 = .ok (.iastore, 1) := by decide +kernel
theorem dX9_init_383 : decode cX9_init 383 = .ok (.iinc 1 1, 3) := by decide +kernel
theorem dX9_init_386 : decode cX9_init 386 = .ok (.goto (-15), 3) := by decide +kernel
theorem dX9_init_389 : decode cX9_init 389 = .ok (.return_, 1) := by decide +kernel
theorem dX9_thrown_0 : decode cX9_thrown 0 = .ok (.aload_n 0, 1) := by decide +kernel
theorem dX9_thrown_1 : decode cX9_thrown 1 = .ok (.getfield 149, 3) := by decide +kernel
theorem dX9_thrown_4 : decode cX9_thrown 4 = .ok (.ireturn, 1) := by decide +kernel
theorem dX9_in_0 : decode cX9_in 0 = .ok (.iload_n 0, 1) := by decide +kernel
theorem dX9_in_1 : decode cX9_in 1 = .ok (.iload_n 1, 1) := by decide +kernel
theorem dX9_in_2 : decode cX9_in 2 = .ok (.if_icmp .lt 12, 3) := by decide +kernel
theorem dX9_in_5 : decode cX9_in 5 = .ok (.iload_n 0, 1) := by decide +kernel
theorem dX9_in_6 : decode cX9_in 6 = .ok (.iload_n 2, 1) := by decide +kernel
theorem dX9_in_7 : decode cX9_in 7 = .ok (.if_icmp .gt 7, 3) := by decide +kernel
theorem dX9_in_10 : decode cX9_in 10 = .ok (.iconst 1, 1) := by decide +kernel
theorem dX9_in_11 : decode cX9_in 11 = .ok (.goto 4, 3) := by decide +kernel
theorem dX9_in_14 : decode cX9_in 14 = .ok (.iconst 0, 1) := by decide +kernel
theorem dX9_in_15 : decode cX9_in 15 = .ok (.ireturn, 1) := by decide +kernel
theorem dX9_goes_0 : decode cX9_goes 0 = .ok (.aload_n 0, 1) := by decide +kernel
theorem dX9_goes_1 : decode cX9_goes 1 = .ok (.iload_n 1, 1) := by decide +kernel
theorem dX9_goes_2 : decode cX9_goes 2 = .ok (.ifCond .ne 7, 3) := by decide +kernel
theorem dX9_goes_5 : decode cX9_goes 5 = .ok (.iconst 1, 1) := by decide +kernel
theorem dX9_goes_6 : decode cX9_goes 6 = .ok (.goto 20, 3) := by decide +kernel
theorem dX9_goes_9 : decode cX9_goes 9 = .ok (.iload_n 2, 1) := by decide +kernel
theorem dX9_goes_10 : decode cX9_goes 10 = .ok (.ifCond .ne 7, 3) := by decide +kernel
theorem dX9_goes_13 : decode cX9_goes 13 = .ok (.iconst 2, 1) := by decide +kernel
theorem dX9_goes_14 : decode cX9_goes 14 = .ok (.goto 12, 3) := by decide +kernel
theorem dX9_goes_17 : decode cX9_goes 17 = .ok (.iload_n 3, 1) := by decide +kernel
end
section
theorem dX9_goes_18 : decode cX9_goes 18 = .ok (.ifCond .ne 7, 3) := by decide +kernel
theorem dX9_goes_21 : decode cX9_goes 21 = .ok (.iconst 3, 1) := by decide +kernel
theorem dX9_goes_22 : decode cX9_goes 22 = .ok (.goto 4, 3) := by decide +kernel
theorem dX9_goes_25 : decode cX9_goes 25 = .ok (.iconst 0, 1) := by decide +kernel
theorem dX9_goes_26 : decode cX9_goes 26 = .ok (.putfield 149, 3) := by decide +kernel
theorem dX9_goes_29 : decode cX9_goes 29 = .ok (.aload_n 0, 1) := by decide +kernel
theorem dX9_goes_30 : decode cX9_goes 30 = .ok (.getfield 149, 3) := by decide +kernel
theorem dX9_goes_33 : decode cX9_goes 33 = .ok (.ifCond .ne 7, 3) := by decide +kernel
theorem dX9_goes_36 : decode cX9_goes 36 = .ok (.iconst 1, 1) := by decide +kernel
theorem dX9_goes_37 : decode cX9_goes 37 = .ok (.goto 4, 3) := by decide +kernel
theorem dX9_goes_40 : decode cX9_goes 40 = .ok (.iconst 0, 1) := by decide +kernel
theorem dX9_goes_41 : decode cX9_goes 41 = .ok (.ireturn, 1) := by decide +kernel
theorem dX9_isStreet_0 : decode cX9_isStreet 0 = .ok (.iload_n 0, 1) := by decide +kernel
theorem dX9_isStreet_1 : decode cX9_isStreet 1 = .ok (.iconst 0, 1) := by decide +kernel
theorem dX9_isStreet_2 : decode cX9_isStreet 2 = .ok (.iconst 3, 1) := by decide +kernel
theorem dX9_isStreet_3 : decode cX9_isStreet 3 = .ok (.invokestatic 153, 3) := by decide +kernel
theorem dX9_isStreet_6 : decode cX9_isStreet 6 = .ok (.ireturn, 1) := by decide +kernel
theorem dX9_isMetre_0 : decode cX9_isMetre 0 = .ok (.iload_n 0, 1) := by decide +kernel
theorem dX9_isMetre_1 : decode cX9_isMetre 1 = .ok (.iconst 0, 1) := by decide +kernel
theorem dX9_isMetre_2 : decode cX9_isMetre 2 = .ok (.bipush 59, 2) := by decide +kernel
theorem dX9_isMetre_4 : decode cX9_isMetre 4 = .ok (.invokestatic 153, 3) := by decide +kernel
theorem dX9_isMetre_7 : decode cX9_isMetre 7 = .ok (.ireturn, 1) := by decide +kernel
theorem dX9_isCar_0 : decode cX9_isCar 0 = .ok (.iload_n 1, 1) := by decide +kernel
theorem dX9_isCar_1 : decode cX9_isCar 1 = .ok (.iconst 0, 1) := by decide +kernel
theorem dX9_isCar_2 : decode cX9_isCar 2 = .ok (.aload_n 0, 1) := by decide +kernel
theorem dX9_isCar_3 : decode cX9_isCar 3 = .ok (.getfield 157, 3) := by decide +kernel
theorem dX9_isCar_6 : decode cX9_isCar 6 = .ok (.iconst 1, 1) := by decide +kernel
theorem dX9_isCar_7 : decode cX9_isCar 7 = .ok (.isub, 1) := by decide +kernel
theorem dX9_isCar_8 : decode cX9_isCar 8 = .ok (.invokestatic 153, 3) := by decide +kernel
theorem dX9_isCar_11 : decode cX9_isCar 11 = .ok (.ireturn, 1) := by decide +kernel
theorem dX9_has_0 : decode cX9_has 0 = .ok (.iload_n 0, 1) := by decide +kernel
theorem dX9_has_1 : decode cX9_has 1 = .ok (.iload_n 1, 1) := by decide +kernel
theorem dX9_has_2 : decode cX9_has 2 = .ok (.ishr, 1) := by decide +kernel
theorem dX9_has_3 : decode cX9_has 3 = .ok (.iconst 1, 1) := by decide +kernel
theorem dX9_has_4 : decode cX9_has 4 = .ok (.iand, 1) := by decide +kernel
theorem dX9_has_5 : decode cX9_has 5 = .ok (.iconst 1, 1) := by decide +kernel
theorem dX9_has_6 : decode cX9_has 6 = .ok (.if_icmp .ne 7, 3) := by decide +kernel
theorem dX9_has_9 : decode cX9_has 9 = .ok (.iconst 1, 1) := by decide +kernel
theorem dX9_has_10 : decode cX9_has 10 = .ok (.goto 4, 3) := by decide +kernel
theorem dX9_has_13 : decode cX9_has 13 = .ok (.iconst 0, 1) := by decide +kernel
theorem dX9_has_14 : decode cX9_has 14 = .ok (.ireturn, 1) := by decide +kernel
theorem dX9_block_0 : decode cX9_block 0 = .ok (.aload_n 0, 1) := by decide +kernel
theorem dX9_block_1 : decode cX9_block 1 = .ok (.iload_n 1, 1) := by decide +kernel
theorem dX9_block_2 : decode cX9_block 2 = .ok (.invokestatic 160, 3) := by decide +kernel
theorem dX9_block_5 : decode cX9_block 5 = .ok (.ifCond .eq 14, 3) := by decide +kernel
theorem dX9_block_8 : decode cX9_block 8 = .ok (.iload_n 2, 1) := by decide +kernel
theorem dX9_block_9 : decode cX9_block 9 = .ok (.invokestatic 164, 3) := by decide +kernel
theorem dX9_block_12 : decode cX9_block 12 = .ok (.ifCond .eq 7, 3) := by decide +kernel
theorem dX9_block_15 : decode cX9_block 15 = .ok (.iconst 1, 1) := by decide +kernel
theorem dX9_block_16 : decode cX9_block 16 = .ok (.goto 4, 3) := by decide +kernel
theorem dX9_block_19 : decode cX9_block 19 = .ok (.iconst 0, 1) := by decide +kernel
theorem dX9_block_20 : decode cX9_block 20 = .ok (.iconst 1, 1) := by decide +kernel
theorem dX9_block_21 : decode cX9_block 21 = .ok (.iconst 1, 1) := by decide +kernel
theorem dX9_block_22 : decode cX9_block 22 = .ok (.invokevirtual 167, 3) := by decide +kernel
theorem dX9_block_25 : decode cX9_block 25 = .ok (.ifCond .ne 5, 3) := by decide +kernel
theorem dX9_block_28 : decode cX9_block 28 = .ok (.iconst 0, 1) := by decide +kernel
theorem dX9_block_29 : decode cX9_block 29 = .ok (.ireturn, 1) := by decide +kernel
theorem dX9_block_30 : decode cX9_block 30 = .ok (.aload_n 0, 1) := by decide +kernel
theorem dX9_block_31 : decode cX9_block 31 = .ok (.getfield 7, 3) := by decide +kernel
theorem dX9_block_34 : decode cX9_block 34 = .ok (.bipush 60, 2) := by decide +kernel
theorem dX9_block_36 : decode cX9_block 36 = .ok (.iload_n 1, 1) := by decide +kernel
theorem dX9_block_37 : decode cX9_block 37 = .ok (.imul, 1) := by decide +kernel
theorem dX9_block_38 : decode cX9_block 38 = .ok (.iload_n 2, 1) := by decide +kernel
theorem dX9_block_39 : decode cX9_block 39 = .ok (.iadd, 1) := by decide +kernel
theorem dX9_block_40 : decode cX9_block 40 = .ok (.baload, 1) := by decide +kernel
theorem dX9_block_41 : decode cX9_block 41 = .ok (.istore 4, 2) := by decide +kernel
theorem dX9_block_43 : decode cX9_block 43 = .ok (.aload_n 0, 1) := by decide +kernel
theorem dX9_block_44 : decode cX9_block 44 = .ok (.getfield 7, 3) := by decide +kernel
theorem dX9_block_47 : decode cX9_block 47 = .ok (.bipush 60, 2) := by decide +kernel
theorem dX9_block_49 : decode cX9_block 49 = .ok (.iload_n 1, 1) := by decide +kernel
theorem dX9_block_50 : decode cX9_block 50 = .ok (.imul, 1) := by decide +kernel
theorem dX9_block_51 : decode cX9_block 51 = .ok (.iload_n 2, 1) := by decide +kernel
theorem dX9_block_52 : decode cX9_block 52 = .ok (.iadd, 1) := by decide +kernel
theorem dX9_block_53 : decode cX9_block 53 = .ok (.iload_n 3, 1) := by decide +kernel
theorem dX9_block_54 : decode cX9_block 54 = .ok (.bastore, 1) := by decide +kernel
theorem dX9_block_55 : decode cX9_block 55 = .ok (.iload 4, 2) := by decide +kernel
theorem dX9_block_57 : decode cX9_block 57 = .ok (.ireturn, 1) := by decide +kernel
theorem dX9_resets_0 : decode cX9_resets 0 = .ok (.aload_n 0, 1) := by decide +kernel
theorem dX9_resets_1 : decode cX9_resets 1 = .ok (.bipush 127, 2) := by decide +kernel
theorem dX9_resets_3 : decode cX9_resets 3 = .ok (.putfield 171, 3) := by decide +kernel
theorem dX9_resets_6 : decode cX9_resets 6 = .ok (.aload_n 0, 1) := by decide +kernel
theorem dX9_resets_7 : decode cX9_resets 7 = .ok (.iconst 0, 1) := by decide +kernel
theorem dX9_resets_8 : decode cX9_resets 8 = .ok (.putfield 174, 3) := by decide +kernel
theorem dX9_resets_11 : decode cX9_resets 11 = .ok (.aload_n 0, 1) := by decide +kernel
theorem dX9_resets_12 : decode cX9_resets 12 = .ok (.bipush 96, 2) := by decide +kernel
theorem dX9_resets_14 : decode cX9_resets 14 = .ok (.putfield 177, 3) := by decide +kernel
theorem dX9_resets_17 : decode cX9_resets 17 = .ok (.aload_n 0, 1) := by decide +kernel
theorem dX9_resets_18 : decode cX9_resets 18 = .ok (.iconst 0, 1) := by decide +kernel
theorem dX9_resets_19 : decode cX9_resets 19 = .ok (.putfield 180, 3) := by decide +kernel
theorem dX9_resets_22 : decode cX9_resets 22 = .ok (.aload_n 0, 1) := by decide +kernel
theorem dX9_resets_23 : decode cX9_resets 23 = .ok (.sipush 520, 3) := by decide +kernel
theorem dX9_resets_26 : decode cX9_resets 26 = .ok (.putfield 183, 3) := by decide +kernel
theorem dX9_resets_29 : decode cX9_resets 29 = .ok (.return_, 1) := by decide +kernel
theorem dX9_times_0 : decode cX9_times 0 = .ok (.aload_n 0, 1) := by decide +kernel
theorem dX9_times_1 : decode cX9_times 1 = .ok (.iload_n 1, 1) := by decide +kernel
theorem dX9_times_2 : decode cX9_times 2 = .ok (.iconst 1, 1) := by decide +kernel
theorem dX9_times_3 : decode cX9_times 3 = .ok (.bipush 127, 2) := by decide +kernel
theorem dX9_times_5 : decode cX9_times 5 = .ok (.invokestatic 153, 3) := by decide +kernel
theorem dX9_times_8 : decode cX9_times 8 = .ok (.ifCond .eq 28, 3) := by decide +kernel
theorem dX9_times_11 : decode cX9_times 11 = .ok (.iload_n 2, 1) := by decide +kernel
theorem dX9_times_12 : decode cX9_times 12 = .ok (.iconst 0, 1) := by decide +kernel
theorem dX9_times_13 : decode cX9_times 13 = .ok (.bipush 95, 2) := by decide +kernel
theorem dX9_times_15 : decode cX9_times 15 = .ok (.invokestatic 153, 3) := by decide +kernel
theorem dX9_times_18 : decode cX9_times 18 = .ok (.ifCond .eq 18, 3) := by decide +kernel
theorem dX9_times_21 : decode cX9_times 21 = .ok (.iload_n 3, 1) := by decide +kernel
theorem dX9_times_22 : decode cX9_times 22 = .ok (.iload_n 2, 1) := by decide +kernel
theorem dX9_times_23 : decode cX9_times 23 = .ok (.if_icmp .le 13, 3) := by decide +kernel
theorem dX9_times_26 : decode cX9_times 26 = .ok (.iload_n 3, 1) := by decide +kernel
theorem dX9_times_27 : decode cX9_times 27 = .ok (.bipush 96, 2) := by decide +kernel
theorem dX9_times_29 : decode cX9_times 29 = .ok (.if_icmp .gt 7, 3) := by decide +kernel
theorem dX9_times_32 : decode cX9_times 32 = .ok (.iconst 1, 1) := by decide +kernel
theorem dX9_times_33 : decode cX9_times 33 = .ok (.goto 4, 3) := by decide +kernel
theorem dX9_times_36 : decode cX9_times 36 = .ok (.iconst 0, 1) := by decide +kernel
theorem dX9_times_37 : decode cX9_times 37 = .ok (.iconst 1, 1) := by decide +kernel
theorem dX9_times_38 : decode cX9_times 38 = .ok (.iconst 1, 1) := by decide +kernel
theorem dX9_times_39 : decode cX9_times 39 = .ok (.invokevirtual 167, 3) := by decide +kernel
theorem dX9_times_42 : decode cX9_times 42 = .ok (.ifCond .eq 18, 3) := by decide +kernel
theorem dX9_times_45 : decode cX9_times 45 = .ok (.aload_n 0, 1) := by decide +kernel
theorem dX9_times_46 : decode cX9_times 46 = .ok (.iload_n 1, 1) := by decide +kernel
theorem dX9_times_47 : decode cX9_times 47 = .ok (.putfield 171, 3) := by decide +kernel
theorem dX9_times_50 : decode cX9_times 50 = .ok (.aload_n 0, 1) := by decide +kernel
theorem dX9_times_51 : decode cX9_times 51 = .ok (.iload_n 2, 1) := by decide +kernel
theorem dX9_times_52 : decode cX9_times 52 = .ok (.putfield 174, 3) := by decide +kernel
theorem dX9_times_55 : decode cX9_times 55 = .ok (.aload_n 0, 1) := by decide +kernel
theorem dX9_times_56 : decode cX9_times 56 = .ok (.iload_n 3, 1) := by decide +kernel
theorem dX9_times_57 : decode cX9_times 57 = .ok (.putfield 177, 3) := by decide +kernel
theorem dX9_times_60 : decode cX9_times 60 = .ok (.return_, 1) := by decide +kernel
theorem dX9_dates_0 : decode cX9_dates 0 = .ok (.aload_n 0, 1) := by decide +kernel
theorem dX9_dates_1 : decode cX9_dates 1 = .ok (.iload_n 1, 1) := by decide +kernel
theorem dX9_dates_2 : decode cX9_dates 2 = .ok (.iconst 0, 1) := by decide +kernel
theorem dX9_dates_3 : decode cX9_dates 3 = .ok (.sipush 520, 3) := by decide +kernel
theorem dX9_dates_6 : decode cX9_dates 6 = .ok (.invokestatic 153, 3) := by decide +kernel
theorem dX9_dates_9 : decode cX9_dates 9 = .ok (.ifCond .eq 18, 3) := by decide +kernel
theorem dX9_dates_12 : decode cX9_dates 12 = .ok (.iload_n 2, 1) := by decide +kernel
theorem dX9_dates_13 : decode cX9_dates 13 = .ok (.iload_n 1, 1) := by decide +kernel
theorem dX9_dates_14 : decode cX9_dates 14 = .ok (.sipush 520, 3) := by decide +kernel
theorem dX9_dates_17 : decode cX9_dates 17 = .ok (.invokestatic 153, 3) := by decide +kernel
theorem dX9_dates_20 : decode cX9_dates 20 = .ok (.ifCond .eq 7, 3) := by decide +kernel
theorem dX9_dates_23 : decode cX9_dates 23 = .ok (.iconst 1, 1) := by decide +kernel
theorem dX9_dates_24 : decode cX9_dates 24 = .ok (.goto 4, 3) := by decide +kernel
theorem dX9_dates_27 : decode cX9_dates 27 = .ok (.iconst 0, 1) := by decide +kernel
theorem dX9_dates_28 : decode cX9_dates 28 = .ok (.iconst 1, 1) := by decide +kernel
theorem dX9_dates_29 : decode cX9_dates 29 = .ok (.iconst 1, 1) := by decide +kernel
theorem dX9_dates_30 : decode cX9_dates 30 = .ok (.invokevirtual 167, 3) := by decide +kernel
theorem dX9_dates_33 : decode cX9_dates 33 = .ok (.ifCond .eq 13, 3) := by decide +kernel
theorem dX9_dates_36 : decode cX9_dates 36 = .ok (.aload_n 0, 1) := by decide +kernel
theorem dX9_dates_37 : decode cX9_dates 37 = .ok (.iload_n 1, 1) := by decide +kernel
theorem dX9_dates_38 : decode cX9_dates 38 = .ok (.putfield 180, 3) := by decide +kernel
theorem dX9_dates_41 : decode cX9_dates 41 = .ok (.aload_n 0, 1) := by decide +kernel
theorem dX9_dates_42 : decode cX9_dates 42 = .ok (.iload_n 2, 1) := by decide +kernel
theorem dX9_dates_43 : decode cX9_dates 43 = .ok (.putfield 183, 3) := by decide +kernel
theorem dX9_dates_46 : decode cX9_dates 46 = .ok (.return_, 1) := by decide +kernel
theorem dX9_sign_0 : decode cX9_sign 0 = .ok (.aload_n 0, 1) := by decide +kernel
theorem dX9_sign_1 : decode cX9_sign 1 = .ok (.iload_n 1, 1) := by decide +kernel
theorem dX9_sign_2 : decode cX9_sign 2 = .ok (.invokestatic 160, 3) := by decide +kernel
theorem dX9_sign_5 : decode cX9_sign 5 = .ok (.ifCond .eq 21, 3) := by decide +kernel
theorem dX9_sign_8 : decode cX9_sign 8 = .ok (.iload_n 2, 1) := by decide +kernel
theorem dX9_sign_9 : decode cX9_sign 9 = .ok (.invokestatic 164, 3) := by decide +kernel
theorem dX9_sign_12 : decode cX9_sign 12 = .ok (.ifCond .eq 14, 3) := by decide +kernel
theorem dX9_sign_15 : decode cX9_sign 15 = .ok (.iload_n 3, 1) := by decide +kernel
theorem dX9_sign_16 : decode cX9_sign 16 = .ok (.invokestatic 164, 3) := by decide +kernel
theorem dX9_sign_19 : decode cX9_sign 19 = .ok (.ifCond .eq 7, 3) := by decide +kernel
theorem dX9_sign_22 : decode cX9_sign 22 = .ok (.iconst 1, 1) := by decide +kernel
theorem dX9_sign_23 : decode cX9_sign 23 = .ok (.goto 4, 3) := by decide +kernel
theorem dX9_sign_26 : decode cX9_sign 26 = .ok (.iconst 0, 1) := by decide +kernel
theorem dX9_sign_27 : decode cX9_sign 27 = .ok (.iload_n 3, 1) := by decide +kernel
theorem dX9_sign_28 : decode cX9_sign 28 = .ok (.iload_n 2, 1) := by decide +kernel
theorem dX9_sign_29 : decode cX9_sign 29 = .ok (.if_icmp .lt 29, 3) := by decide +kernel
theorem dX9_sign_32 : decode cX9_sign 32 = .ok (.iload 4, 2) := by decide +kernel
theorem dX9_sign_34 : decode cX9_sign 34 = .ok (.iconst 0, 1) := by decide +kernel
theorem dX9_sign_35 : decode cX9_sign 35 = .ok (.bipush 31, 2) := by decide +kernel
theorem dX9_sign_37 : decode cX9_sign 37 = .ok (.invokestatic 153, 3) := by decide +kernel
theorem dX9_sign_40 : decode cX9_sign 40 = .ok (.ifCond .eq 18, 3) := by decide +kernel
theorem dX9_sign_43 : decode cX9_sign 43 = .ok (.iload 5, 2) := by decide +kernel
theorem dX9_sign_45 : decode cX9_sign 45 = .ok (.iconst 0, 1) := by decide +kernel
theorem dX9_sign_46 : decode cX9_sign 46 = .ok (.bipush 96, 2) := by decide +kernel
theorem dX9_sign_48 : decode cX9_sign 48 = .ok (.invokestatic 153, 3) := by decide +kernel
theorem dX9_sign_51 : decode cX9_sign 51 = .ok (.ifCond .eq 7, 3) := by decide +kernel
theorem dX9_sign_54 : decode cX9_sign 54 = .ok (.iconst 1, 1) := by decide +kernel
theorem dX9_sign_55 : decode cX9_sign 55 = .ok (.goto 4, 3) := by decide +kernel
theorem dX9_sign_58 : decode cX9_sign 58 = .ok (.iconst 0, 1) := by decide +kernel
theorem dX9_sign_59 : decode cX9_sign 59 = .ok (.aload_n 0, 1) := by decide +kernel
theorem dX9_sign_60 : decode cX9_sign 60 = .ok (.getfield 186, 3) := by decide +kernel
theorem dX9_sign_63 : decode cX9_sign 63 = .ok (.bipush 30, 2) := by decide +kernel
theorem dX9_sign_65 : decode cX9_sign 65 = .ok (.if_icmp .ge 7, 3) := by decide +kernel
theorem dX9_sign_68 : decode cX9_sign 68 = .ok (.iconst 1, 1) := by decide +kernel
theorem dX9_sign_69 : decode cX9_sign 69 = .ok (.goto 4, 3) := by decide +kernel
theorem dX9_sign_72 : decode cX9_sign 72 = .ok (.iconst 0, 1) := by decide +kernel
theorem dX9_sign_73 : decode cX9_sign 73 = .ok (.invokevirtual 167, 3) := by decide +kernel
theorem dX9_sign_76 : decode cX9_sign 76 = .ok (.ifCond .ne 5, 3) := by decide +kernel
theorem dX9_sign_79 : decode cX9_sign 79 = .ok (.iconst 0, 1) := by decide +kernel
theorem dX9_sign_80 : decode cX9_sign 80 = .ok (.ireturn, 1) := by decide +kernel
theorem dX9_sign_81 : decode cX9_sign 81 = .ok (.aload_n 0, 1) := by decide +kernel
theorem dX9_sign_82 : decode cX9_sign 82 = .ok (.getfield 13, 3) := by decide +kernel
theorem dX9_sign_85 : decode cX9_sign 85 = .ok (.aload_n 0, 1) := by decide +kernel
theorem dX9_sign_86 : decode cX9_sign 86 = .ok (.getfield 186, 3) := by decide +kernel
theorem dX9_sign_89 : decode cX9_sign 89 = .ok (.iload_n 1, 1) := by decide +kernel
theorem dX9_sign_90 : decode cX9_sign 90 = .ok (.iastore, 1) := by decide +kernel
theorem dX9_sign_91 : decode cX9_sign 91 = .ok (.aload_n 0, 1) := by decide +kernel
theorem dX9_sign_92 : decode cX9_sign 92 = .ok (.getfield 17, 3) := by decide +kernel
theorem dX9_sign_95 : decode cX9_sign 95 = .ok (.aload_n 0, 1) := by decide +kernel
theorem dX9_sign_96 : decode cX9_sign 96 = .ok (.getfield 186, 3) := by decide +kernel
theorem dX9_sign_99 : decode cX9_sign 99 = .ok (.iload_n 2, 1) := by decide +kernel
theorem dX9_sign_100 : decode cX9_sign 100 = .ok (.iastore, 1) := by decide +kernel
theorem dX9_sign_101 : decode cX9_sign 101 = .ok (.aload_n 0, 1) := by decide +kernel
theorem dX9_sign_102 : decode cX9_sign 102 = .ok (.getfield 20, 3) := by decide +kernel
theorem dX9_sign_105 : decode cX9_sign 105 = .ok (.aload_n 0, 1) := by decide +kernel
theorem dX9_sign_106 : decode cX9_sign 106 = .ok (.getfield 186, 3) := by decide +kernel
theorem dX9_sign_109 : decode cX9_sign 109 = .ok (.iload_n 3, 1) := by decide +kernel
theorem dX9_sign_110 : decode cX9_sign 110 = .ok (.iastore, 1) := by decide +kernel
theorem dX9_sign_111 : decode cX9_sign 111 = .ok (.aload_n 0, 1) := by decide +kernel
theorem dX9_sign_112 : decode cX9_sign 112 = .ok (.getfield 23, 3) := by decide +kernel
theorem dX9_sign_115 : decode cX9_sign 115 = .ok (.aload_n 0, 1) := by decide +kernel
theorem dX9_sign_116 : decode cX9_sign 116 = .ok (.getfield 186, 3) := by decide +kernel
theorem dX9_sign_119 : decode cX9_sign 119 = .ok (.iload 4, 2) := by decide +kernel
theorem dX9_sign_121 : decode cX9_sign 121 = .ok (.iastore, 1) := by decide +kernel
theorem dX9_sign_122 : decode cX9_sign 122 = .ok (.aload_n 0, 1) := by decide +kernel
theorem dX9_sign_123 : decode cX9_sign 123 = .ok (.getfield 26, 3) := by decide +kernel
theorem dX9_sign_126 : decode cX9_sign 126 = .ok (.aload_n 0, 1) := by decide +kernel
theorem dX9_sign_127 : decode cX9_sign 127 = .ok (.getfield 186, 3) := by decide +kernel
theorem dX9_sign_130 : decode cX9_sign 130 = .ok (.iload 5, 2) := by decide +kernel
theorem dX9_sign_132 : decode cX9_sign 132 = .ok (.iastore, 1) := by decide +kernel
theorem dX9_sign_133 : decode cX9_sign 133 = .ok (.aload_n 0, 1) := by decide +kernel
theorem dX9_sign_134 : decode cX9_sign 134 = .ok (.getfield 29, 3) := by decide +kernel
theorem dX9_sign_137 : decode cX9_sign 137 = .ok (.aload_n 0, 1) := by decide +kernel
theorem dX9_sign_138 : decode cX9_sign 138 = .ok (.getfield 186, 3) := by decide +kernel
theorem dX9_sign_141 : decode cX9_sign 141 = .ok (.iload 6, 2) := by decide +kernel
theorem dX9_sign_143 : decode cX9_sign 143 = .ok (.bastore, 1) := by decide +kernel
theorem dX9_sign_144 : decode cX9_sign 144 = .ok (.aload_n 0, 1) := by decide +kernel
theorem dX9_sign_145 : decode cX9_sign 145 = .ok (.getfield 32, 3) := by decide +kernel
theorem dX9_sign_148 : decode cX9_sign 148 = .ok (.aload_n 0, 1) := by decide +kernel
theorem dX9_sign_149 : decode cX9_sign 149 = .ok (.getfield 186, 3) := by decide +kernel
theorem dX9_sign_152 : decode cX9_sign 152 = .ok (.iload 7, 2) := by decide +kernel
theorem dX9_sign_154 : decode cX9_sign 154 = .ok (.bastore, 1) := by decide +kernel
theorem dX9_sign_155 : decode cX9_sign 155 = .ok (.aload_n 0, 1) := by decide +kernel
theorem dX9_sign_156 : decode cX9_sign 156 = .ok (.getfield 35, 3) := by decide +kernel
theorem dX9_sign_159 : decode cX9_sign 159 = .ok (.aload_n 0, 1) := by decide +kernel
theorem dX9_sign_160 : decode cX9_sign 160 = .ok (.getfield 186, 3) := by decide +kernel
theorem dX9_sign_163 : decode cX9_sign 163 = .ok (.aload_n 0, 1) := by decide +kernel
theorem dX9_sign_164 : decode cX9_sign 164 = .ok (.getfield 171, 3) := by decide +kernel
theorem dX9_sign_167 : decode cX9_sign 167 = .ok (.iastore, 1) := by decide +kernel
theorem dX9_sign_168 : decode cX9_sign 168 = .ok (.aload_n 0, 1) := by decide +kernel
theorem dX9_sign_169 : decode cX9_sign 169 = .ok (.getfield 38, 3) := by decide +kernel
theorem dX9_sign_172 : decode cX9_sign 172 = .ok (.aload_n 0, 1) := by decide +kernel
theorem dX9_sign_173 : decode cX9_sign 173 = .ok (.getfield 186, 3) := by decide +kernel
theorem dX9_sign_176 : decode cX9_sign 176 = .ok (.aload_n 0, 1) := by decide +kernel
theorem dX9_sign_177 : decode cX9_sign 177 = .ok (.getfield 174, 3) := by decide +kernel
theorem dX9_sign_180 : decode cX9_sign 180 = .ok (.iastore, 1) := by decide +kernel
theorem dX9_sign_181 : decode cX9_sign 181 = .ok (.aload_n 0, 1) := by decide +kernel
theorem dX9_sign_182 : decode cX9_sign 182 = .ok (.getfield 41, 3) := by decide +kernel
theorem dX9_sign_185 : decode cX9_sign 185 = .ok (.aload_n 0, 1) := by decide +kernel
theorem dX9_sign_186 : decode cX9_sign 186 = .ok (.getfield 186, 3) := by decide +kernel
theorem dX9_sign_189 : decode cX9_sign 189 = .ok (.aload_n 0, 1) := by decide +kernel
theorem dX9_sign_190 : decode cX9_sign 190 = .ok (.getfield 177, 3) := by decide +kernel
theorem dX9_sign_193 : decode cX9_sign 193 = .ok (.iastore, 1) := by decide +kernel
theorem dX9_sign_194 : decode cX9_sign 194 = .ok (.aload_n 0, 1) := by decide +kernel
theorem dX9_sign_195 : decode cX9_sign 195 = .ok (.getfield 44, 3) := by decide +kernel
theorem dX9_sign_198 : decode cX9_sign 198 = .ok (.aload_n 0, 1) := by decide +kernel
theorem dX9_sign_199 : decode cX9_sign 199 = .ok (.getfield 186, 3) := by decide +kernel
theorem dX9_sign_202 : decode cX9_sign 202 = .ok (.aload_n 0, 1) := by decide +kernel
theorem dX9_sign_203 : decode cX9_sign 203 = .ok (.getfield 180, 3) := by decide +kernel
theorem dX9_sign_206 : decode cX9_sign 206 = .ok (.iastore, 1) := by decide +kernel
theorem dX9_sign_207 : decode cX9_sign 207 = .ok (.aload_n 0, 1) := by decide +kernel
theorem dX9_sign_208 : decode cX9_sign 208 = .ok (.getfield 47, 3) := by decide +kernel
theorem dX9_sign_211 : decode cX9_sign 211 = .ok (.aload_n 0, 1) := by decide +kernel
theorem dX9_sign_212 : decode cX9_sign 212 = .ok (.getfield 186, 3) := by decide +kernel
theorem dX9_sign_215 : decode cX9_sign 215 = .ok (.aload_n 0, 1) := by decide +kernel
theorem dX9_sign_216 : decode cX9_sign 216 = .ok (.getfield 183, 3) := by decide +kernel
theorem dX9_sign_219 : decode cX9_sign 219 = .ok (.iastore, 1) := by decide +kernel
theorem dX9_sign_220 : decode cX9_sign 220 = .ok (.aload_n 0, 1) := by decide +kernel
theorem dX9_sign_221 : decode cX9_sign 221 = .ok (.getfield 50, 3) := by decide +kernel
theorem dX9_sign_224 : decode cX9_sign 224 = .ok (.aload_n 0, 1) := by decide +kernel
theorem dX9_sign_225 : decode cX9_sign 225 = .ok (.getfield 186, 3) := by decide +kernel
theorem dX9_sign_228 : decode cX9_sign 228 = .ok (.aload_n 0, 1) := by decide +kernel
theorem dX9_sign_229 : decode cX9_sign 229 = .ok (.getfield 189, 3) := by decide +kernel
theorem dX9_sign_232 : decode cX9_sign 232 = .ok (.iastore, 1) := by decide +kernel
theorem dX9_sign_233 : decode cX9_sign 233 = .ok (.aload_n 0, 1) := by decide +kernel
theorem dX9_sign_234 : decode cX9_sign 234 = .ok (.getfield 53, 3) := by decide +kernel
theorem dX9_sign_237 : decode cX9_sign 237 = .ok (.aload_n 0, 1) := by decide +kernel
theorem dX9_sign_238 : decode cX9_sign 238 = .ok (.getfield 186, 3) := by decide +kernel
theorem dX9_sign_241 : decode cX9_sign 241 = .ok (.ldc 192, 2) := by decide +kernel
theorem dX9_sign_243 : decode cX9_sign 243 = .ok (.iastore, 1) := by decide +kernel
theorem dX9_sign_244 : decode cX9_sign 244 = .ok (.aload_n 0, 1) := by decide +kernel
theorem dX9_sign_245 : decode cX9_sign 245 = .ok (.invokevirtual 146, 3) := by decide +kernel
theorem dX9_sign_248 : decode cX9_sign 248 = .ok (.aload_n 0, 1) := by decide +kernel
theorem dX9_sign_249 : decode cX9_sign 249 = .ok (.dup, 1) := by decide +kernel
theorem dX9_sign_250 : decode cX9_sign 250 = .ok (.getfield 186, 3) := by decide +kernel
theorem dX9_sign_253 : decode cX9_sign 253 = .ok (.iconst 1, 1) := by decide +kernel
theorem dX9_sign_254 : decode cX9_sign 254 = .ok (.iadd, 1) := by decide +kernel
theorem dX9_sign_255 : decode cX9_sign 255 = .ok (.putfield 186, 3) := by decide +kernel
theorem dX9_sign_258 : decode cX9_sign 258 = .ok (.aload_n 0, 1) := by decide +kernel
theorem dX9_sign_259 : decode cX9_sign 259 = .ok (.getfield 186, 3) := by decide +kernel
theorem dX9_sign_262 : decode cX9_sign 262 = .ok (.iconst 1, 1) := by decide +kernel
theorem dX9_sign_263 : decode cX9_sign 263 = .ok (.isub, 1) := by decide +kernel
theorem dX9_sign_264 : decode cX9_sign 264 = .ok (.ireturn, 1) := by decide +kernel
theorem dX9_takeDown_0 : decode cX9_takeDown 0 = .ok (.iload_n 1, 1) := by decide +kernel
theorem dX9_takeDown_1 : decode cX9_takeDown 1 = .ok (.iconst 0, 1) := by decide +kernel
theorem dX9_takeDown_2 : decode cX9_takeDown 2 = .ok (.aload_n 0, 1) := by decide +kernel
theorem dX9_takeDown_3 : decode cX9_takeDown 3 = .ok (.getfield 186, 3) := by decide +kernel
theorem dX9_takeDown_6 : decode cX9_takeDown 6 = .ok (.iconst 1, 1) := by decide +kernel
theorem dX9_takeDown_7 : decode cX9_takeDown 7 = .ok (.isub, 1) := by decide +kernel
theorem dX9_takeDown_8 : decode cX9_takeDown 8 = .ok (.invokestatic 153, 3) := by decide +kernel
theorem dX9_takeDown_11 : decode cX9_takeDown 11 = .ok (.istore_n 2, 1) := by decide +kernel
theorem dX9_takeDown_12 : decode cX9_takeDown 12 = .ok (.aload_n 0, 1) := by decide +kernel
theorem dX9_takeDown_13 : decode cX9_takeDown 13 = .ok (.iload_n 2, 1) := by decide +kernel
theorem dX9_takeDown_14 : decode cX9_takeDown 14 = .ok (.iload_n 2, 1) := by decide +kernel
theorem dX9_takeDown_15 : decode cX9_takeDown 15 = .ok (.ifCond .eq 26, 3) := by decide +kernel
theorem dX9_takeDown_18 : decode cX9_takeDown 18 = .ok (.aload_n 0, 1) := by decide +kernel
theorem dX9_takeDown_19 : decode cX9_takeDown 19 = .ok (.getfield 53, 3) := by decide +kernel
theorem dX9_takeDown_22 : decode cX9_takeDown 22 = .ok (.iload_n 2, 1) := by decide +kernel
theorem dX9_takeDown_23 : decode cX9_takeDown 23 = .ok (.ifCond .eq 7, 3) := by decide +kernel
theorem dX9_takeDown_26 : decode cX9_takeDown 26 = .ok (.iload_n 1, 1) := by decide +kernel
theorem dX9_takeDown_27 : decode cX9_takeDown 27 = .ok (.goto 4, 3) := by decide +kernel
theorem dX9_takeDown_30 : decode cX9_takeDown 30 = .ok (.iconst 0, 1) := by decide +kernel
theorem dX9_takeDown_31 : decode cX9_takeDown 31 = .ok (.iaload, 1) := by decide +kernel
theorem dX9_takeDown_32 : decode cX9_takeDown 32 = .ok (.ldc 193, 2) := by decide +kernel
theorem dX9_takeDown_34 : decode cX9_takeDown 34 = .ok (.if_icmp .le 7, 3) := by decide +kernel
theorem dX9_takeDown_37 : decode cX9_takeDown 37 = .ok (.iconst 1, 1) := by decide +kernel
theorem dX9_takeDown_38 : decode cX9_takeDown 38 = .ok (.goto 4, 3) := by decide +kernel
theorem dX9_takeDown_41 : decode cX9_takeDown 41 = .ok (.iconst 0, 1) := by decide +kernel
theorem dX9_takeDown_42 : decode cX9_takeDown 42 = .ok (.iconst 1, 1) := by decide +kernel
theorem dX9_takeDown_43 : decode cX9_takeDown 43 = .ok (.invokevirtual 167, 3) := by decide +kernel
theorem dX9_takeDown_46 : decode cX9_takeDown 46 = .ok (.ifCond .eq 13, 3) := by decide +kernel
theorem dX9_takeDown_49 : decode cX9_takeDown 49 = .ok (.aload_n 0, 1) := by decide +kernel
theorem dX9_takeDown_50 : decode cX9_takeDown 50 = .ok (.getfield 53, 3) := by decide +kernel
theorem dX9_takeDown_53 : decode cX9_takeDown 53 = .ok (.iload_n 1, 1) := by decide +kernel
theorem dX9_takeDown_54 : decode cX9_takeDown 54 = .ok (.aload_n 0, 1) := by decide +kernel
theorem dX9_takeDown_55 : decode cX9_takeDown 55 = .ok (.getfield 189, 3) := by decide +kernel
theorem dX9_takeDown_58 : decode cX9_takeDown 58 = .ok (.iastore, 1) := by decide +kernel
theorem dX9_takeDown_59 : decode cX9_takeDown 59 = .ok (.return_, 1) := by decide +kernel
theorem dX9_holds_0 : decode cX9_holds 0 = .ok (.iload 4, 2) := by decide +kernel
theorem dX9_holds_2 : decode cX9_holds 2 = .ok (.bipush 96, 2) := by decide +kernel
theorem dX9_holds_4 : decode cX9_holds 4 = .ok (.idiv, 1) := by decide +kernel
theorem dX9_holds_5 : decode cX9_holds 5 = .ok (.istore 5, 2) := by decide +kernel
theorem dX9_holds_7 : decode cX9_holds 7 = .ok (.aload_n 0, 1) := by decide +kernel
theorem dX9_holds_8 : decode cX9_holds 8 = .ok (.getfield 13, 3) := by decide +kernel
theorem dX9_holds_11 : decode cX9_holds 11 = .ok (.iload_n 1, 1) := by decide +kernel
theorem dX9_holds_12 : decode cX9_holds 12 = .ok (.iaload, 1) := by decide +kernel
theorem dX9_holds_13 : decode cX9_holds 13 = .ok (.iload_n 2, 1) := by decide +kernel
theorem dX9_holds_14 : decode cX9_holds 14 = .ok (.if_icmp .ne 48, 3) := by decide +kernel
theorem dX9_holds_17 : decode cX9_holds 17 = .ok (.iload_n 3, 1) := by decide +kernel
theorem dX9_holds_18 : decode cX9_holds 18 = .ok (.aload_n 0, 1) := by decide +kernel
theorem dX9_holds_19 : decode cX9_holds 19 = .ok (.getfield 17, 3) := by decide +kernel
theorem dX9_holds_22 : decode cX9_holds 22 = .ok (.iload_n 1, 1) := by decide +kernel
theorem dX9_holds_23 : decode cX9_holds 23 = .ok (.iaload, 1) := by decide +kernel
theorem dX9_holds_24 : decode cX9_holds 24 = .ok (.aload_n 0, 1) := by decide +kernel
theorem dX9_holds_25 : decode cX9_holds 25 = .ok (.getfield 20, 3) := by decide +kernel
theorem dX9_holds_28 : decode cX9_holds 28 = .ok (.iload_n 1, 1) := by decide +kernel
theorem dX9_holds_29 : decode cX9_holds 29 = .ok (.iaload, 1) := by decide +kernel
theorem dX9_holds_30 : decode cX9_holds 30 = .ok (.invokestatic 153, 3) := by decide +kernel
theorem dX9_holds_33 : decode cX9_holds 33 = .ok (.ifCond .eq 29, 3) := by decide +kernel
theorem dX9_holds_36 : decode cX9_holds 36 = .ok (.aload_n 0, 1) := by decide +kernel
theorem dX9_holds_37 : decode cX9_holds 37 = .ok (.getfield 50, 3) := by decide +kernel
theorem dX9_holds_40 : decode cX9_holds 40 = .ok (.iload_n 1, 1) := by decide +kernel
theorem dX9_holds_41 : decode cX9_holds 41 = .ok (.iaload, 1) := by decide +kernel
theorem dX9_holds_42 : decode cX9_holds 42 = .ok (.iload 4, 2) := by decide +kernel
theorem dX9_holds_44 : decode cX9_holds 44 = .ok (.if_icmp .gt 18, 3) := by decide +kernel
theorem dX9_holds_47 : decode cX9_holds 47 = .ok (.aload_n 0, 1) := by decide +kernel
theorem dX9_holds_48 : decode cX9_holds 48 = .ok (.getfield 53, 3) := by decide +kernel
theorem dX9_holds_51 : decode cX9_holds 51 = .ok (.iload_n 1, 1) := by decide +kernel
theorem dX9_holds_52 : decode cX9_holds 52 = .ok (.iaload, 1) := by decide +kernel
theorem dX9_holds_53 : decode cX9_holds 53 = .ok (.iload 4, 2) := by decide +kernel
theorem dX9_holds_55 : decode cX9_holds 55 = .ok (.if_icmp .le 7, 3) := by decide +kernel
theorem dX9_holds_58 : decode cX9_holds 58 = .ok (.iconst 1, 1) := by decide +kernel
theorem dX9_holds_59 : decode cX9_holds 59 = .ok (.goto 4, 3) := by decide +kernel
theorem dX9_holds_62 : decode cX9_holds 62 = .ok (.iconst 0, 1) := by decide +kernel
theorem dX9_holds_63 : decode cX9_holds 63 = .ok (.istore 6, 2) := by decide +kernel
theorem dX9_holds_65 : decode cX9_holds 65 = .ok (.iload 6, 2) := by decide +kernel
theorem dX9_holds_67 : decode cX9_holds 67 = .ok (.ifCond .eq 72, 3) := by decide +kernel
theorem dX9_holds_70 : decode cX9_holds 70 = .ok (.aload_n 0, 1) := by decide +kernel
theorem dX9_holds_71 : decode cX9_holds 71 = .ok (.getfield 35, 3) := by decide +kernel
theorem dX9_holds_74 : decode cX9_holds 74 = .ok (.iload_n 1, 1) := by decide +kernel
theorem dX9_holds_75 : decode cX9_holds 75 = .ok (.iaload, 1) := by decide +kernel
theorem dX9_holds_76 : decode cX9_holds 76 = .ok (.iload 5, 2) := by decide +kernel
theorem dX9_holds_78 : decode cX9_holds 78 = .ok (.bipush 7, 2) := by decide +kernel
theorem dX9_holds_80 : decode cX9_holds 80 = .ok (.irem, 1) := by decide +kernel
theorem dX9_holds_81 : decode cX9_holds 81 = .ok (.invokestatic 194, 3) := by decide +kernel
theorem dX9_holds_84 : decode cX9_holds 84 = .ok (.ifCond .eq 55, 3) := by decide +kernel
theorem dX9_holds_87 : decode cX9_holds 87 = .ok (.iload 4, 2) := by decide +kernel
theorem dX9_holds_89 : decode cX9_holds 89 = .ok (.bipush 96, 2) := by decide +kernel
theorem dX9_holds_91 : decode cX9_holds 91 = .ok (.irem, 1) := by decide +kernel
theorem dX9_holds_92 : decode cX9_holds 92 = .ok (.aload_n 0, 1) := by decide +kernel
theorem dX9_holds_93 : decode cX9_holds 93 = .ok (.getfield 38, 3) := by decide +kernel
theorem dX9_holds_96 : decode cX9_holds 96 = .ok (.iload_n 1, 1) := by decide +kernel
theorem dX9_holds_97 : decode cX9_holds 97 = .ok (.iaload, 1) := by decide +kernel
theorem dX9_holds_98 : decode cX9_holds 98 = .ok (.if_icmp .lt 41, 3) := by decide +kernel
theorem dX9_holds_101 : decode cX9_holds 101 = .ok (.iload 4, 2) := by decide +kernel
theorem dX9_holds_103 : decode cX9_holds 103 = .ok (.bipush 96, 2) := by decide +kernel
theorem dX9_holds_105 : decode cX9_holds 105 = .ok (.irem, 1) := by decide +kernel
theorem dX9_holds_106 : decode cX9_holds 106 = .ok (.aload_n 0, 1) := by decide +kernel
theorem dX9_holds_107 : decode cX9_holds 107 = .ok (.getfield 41, 3) := by decide +kernel
theorem dX9_holds_110 : decode cX9_holds 110 = .ok (.iload_n 1, 1) := by decide +kernel
theorem dX9_holds_111 : decode cX9_holds 111 = .ok (.iaload, 1) := by decide +kernel
theorem dX9_holds_112 : decode cX9_holds 112 = .ok (.if_icmp .ge 27, 3) := by decide +kernel
theorem dX9_holds_115 : decode cX9_holds 115 = .ok (.iload 5, 2) := by decide +kernel
theorem dX9_holds_117 : decode cX9_holds 117 = .ok (.aload_n 0, 1) := by decide +kernel
theorem dX9_holds_118 : decode cX9_holds 118 = .ok (.getfield 44, 3) := by decide +kernel
theorem dX9_holds_121 : decode cX9_holds 121 = .ok (.iload_n 1, 1) := by decide +kernel
theorem dX9_holds_122 : decode cX9_holds 122 = .ok (.iaload, 1) := by decide +kernel
theorem dX9_holds_123 : decode cX9_holds 123 = .ok (.aload_n 0, 1) := by decide +kernel
theorem dX9_holds_124 : decode cX9_holds 124 = .ok (.getfield 47, 3) := by decide +kernel
theorem dX9_holds_127 : decode cX9_holds 127 = .ok (.iload_n 1, 1) := by decide +kernel
theorem dX9_holds_128 : decode cX9_holds 128 = .ok (.iaload, 1) := by decide +kernel
theorem dX9_holds_129 : decode cX9_holds 129 = .ok (.invokestatic 153, 3) := by decide +kernel
theorem dX9_holds_132 : decode cX9_holds 132 = .ok (.ifCond .eq 7, 3) := by decide +kernel
theorem dX9_holds_135 : decode cX9_holds 135 = .ok (.iconst 1, 1) := by decide +kernel
theorem dX9_holds_136 : decode cX9_holds 136 = .ok (.goto 4, 3) := by decide +kernel
theorem dX9_holds_139 : decode cX9_holds 139 = .ok (.iconst 0, 1) := by decide +kernel
theorem dX9_holds_140 : decode cX9_holds 140 = .ok (.istore 6, 2) := by decide +kernel
theorem dX9_holds_142 : decode cX9_holds 142 = .ok (.iload 6, 2) := by decide +kernel
theorem dX9_holds_144 : decode cX9_holds 144 = .ok (.ifCond .eq 32, 3) := by decide +kernel
theorem dX9_holds_147 : decode cX9_holds 147 = .ok (.aload_n 0, 1) := by decide +kernel
theorem dX9_holds_148 : decode cX9_holds 148 = .ok (.getfield 32, 3) := by decide +kernel
theorem dX9_holds_151 : decode cX9_holds 151 = .ok (.iload_n 1, 1) := by decide +kernel
theorem dX9_holds_152 : decode cX9_holds 152 = .ok (.baload, 1) := by decide +kernel
theorem dX9_holds_153 : decode cX9_holds 153 = .ok (.ifCond .eq 19, 3) := by decide +kernel
theorem dX9_holds_156 : decode cX9_holds 156 = .ok (.iload 5, 2) := by decide +kernel
theorem dX9_holds_158 : decode cX9_holds 158 = .ok (.aload_n 0, 1) := by decide +kernel
theorem dX9_holds_159 : decode cX9_holds 159 = .ok (.getfield 50, 3) := by decide +kernel
theorem dX9_holds_162 : decode cX9_holds 162 = .ok (.iload_n 1, 1) := by decide +kernel
theorem dX9_holds_163 : decode cX9_holds 163 = .ok (.iaload, 1) := by decide +kernel
theorem dX9_holds_164 : decode cX9_holds 164 = .ok (.bipush 96, 2) := by decide +kernel
theorem dX9_holds_166 : decode cX9_holds 166 = .ok (.idiv, 1) := by decide +kernel
theorem dX9_holds_167 : decode cX9_holds 167 = .ok (.iconst 2, 1) := by decide +kernel
theorem dX9_holds_168 : decode cX9_holds 168 = .ok (.iadd, 1) := by decide +kernel
theorem dX9_holds_169 : decode cX9_holds 169 = .ok (.if_icmp .le 7, 3) := by decide +kernel
theorem dX9_holds_172 : decode cX9_holds 172 = .ok (.iconst 1, 1) := by decide +kernel
theorem dX9_holds_173 : decode cX9_holds 173 = .ok (.goto 4, 3) := by decide +kernel
theorem dX9_holds_176 : decode cX9_holds 176 = .ok (.iconst 0, 1) := by decide +kernel
theorem dX9_holds_177 : decode cX9_holds 177 = .ok (.ireturn, 1) := by decide +kernel
theorem dX9_isAhead_0 : decode cX9_isAhead 0 = .ok (.aload_n 0, 1) := by decide +kernel
theorem dX9_isAhead_1 : decode cX9_isAhead 1 = .ok (.getfield 20, 3) := by decide +kernel
theorem dX9_isAhead_4 : decode cX9_isAhead 4 = .ok (.iload_n 1, 1) := by decide +kernel
theorem dX9_isAhead_5 : decode cX9_isAhead 5 = .ok (.iaload, 1) := by decide +kernel
theorem dX9_isAhead_6 : decode cX9_isAhead 6 = .ok (.aload_n 0, 1) := by decide +kernel
theorem dX9_isAhead_7 : decode cX9_isAhead 7 = .ok (.getfield 17, 3) := by decide +kernel
theorem dX9_isAhead_10 : decode cX9_isAhead 10 = .ok (.iload_n 1, 1) := by decide +kernel
theorem dX9_isAhead_11 : decode cX9_isAhead 11 = .ok (.iaload, 1) := by decide +kernel
theorem dX9_isAhead_12 : decode cX9_isAhead 12 = .ok (.isub, 1) := by decide +kernel
theorem dX9_isAhead_13 : decode cX9_isAhead 13 = .ok (.istore_n 3, 1) := by decide +kernel
theorem dX9_isAhead_14 : decode cX9_isAhead 14 = .ok (.aload_n 0, 1) := by decide +kernel
theorem dX9_isAhead_15 : decode cX9_isAhead 15 = .ok (.getfield 20, 3) := by decide +kernel
theorem dX9_isAhead_18 : decode cX9_isAhead 18 = .ok (.iload_n 2, 1) := by decide +kernel
theorem dX9_isAhead_19 : decode cX9_isAhead 19 = .ok (.iaload, 1) := by decide +kernel
theorem dX9_isAhead_20 : decode cX9_isAhead 20 = .ok (.aload_n 0, 1) := by decide +kernel
theorem dX9_isAhead_21 : decode cX9_isAhead 21 = .ok (.getfield 17, 3) := by decide +kernel
theorem dX9_isAhead_24 : decode cX9_isAhead 24 = .ok (.iload_n 2, 1) := by decide +kernel
theorem dX9_isAhead_25 : decode cX9_isAhead 25 = .ok (.iaload, 1) := by decide +kernel
theorem dX9_isAhead_26 : decode cX9_isAhead 26 = .ok (.isub, 1) := by decide +kernel
theorem dX9_isAhead_27 : decode cX9_isAhead 27 = .ok (.istore 4, 2) := by decide +kernel
theorem dX9_isAhead_29 : decode cX9_isAhead 29 = .ok (.aload_n 0, 1) := by decide +kernel
theorem dX9_isAhead_30 : decode cX9_isAhead 30 = .ok (.getfield 32, 3) := by decide +kernel
theorem dX9_isAhead_33 : decode cX9_isAhead 33 = .ok (.iload_n 1, 1) := by decide +kernel
theorem dX9_isAhead_34 : decode cX9_isAhead 34 = .ok (.baload, 1) := by decide +kernel
theorem dX9_isAhead_35 : decode cX9_isAhead 35 = .ok (.aload_n 0, 1) := by decide +kernel
theorem dX9_isAhead_36 : decode cX9_isAhead 36 = .ok (.getfield 32, 3) := by decide +kernel
theorem dX9_isAhead_39 : decode cX9_isAhead 39 = .ok (.iload_n 2, 1) := by decide +kernel
theorem dX9_isAhead_40 : decode cX9_isAhead 40 = .ok (.baload, 1) := by decide +kernel
theorem dX9_isAhead_41 : decode cX9_isAhead 41 = .ok (.if_icmp .eq 12, 3) := by decide +kernel
theorem dX9_isAhead_44 : decode cX9_isAhead 44 = .ok (.aload_n 0, 1) := by decide +kernel
theorem dX9_isAhead_45 : decode cX9_isAhead 45 = .ok (.getfield 32, 3) := by decide +kernel
theorem dX9_isAhead_48 : decode cX9_isAhead 48 = .ok (.iload_n 1, 1) := by decide +kernel
theorem dX9_isAhead_49 : decode cX9_isAhead 49 = .ok (.baload, 1) := by decide +kernel
theorem dX9_isAhead_50 : decode cX9_isAhead 50 = .ok (.goto 14, 3) := by decide +kernel
theorem dX9_isAhead_53 : decode cX9_isAhead 53 = .ok (.iload_n 3, 1) := by decide +kernel
theorem dX9_isAhead_54 : decode cX9_isAhead 54 = .ok (.iload 4, 2) := by decide +kernel
theorem dX9_isAhead_56 : decode cX9_isAhead 56 = .ok (.if_icmp .gt 7, 3) := by decide +kernel
theorem dX9_isAhead_59 : decode cX9_isAhead 59 = .ok (.iconst 1, 1) := by decide +kernel
theorem dX9_isAhead_60 : decode cX9_isAhead 60 = .ok (.goto 4, 3) := by decide +kernel
theorem dX9_isAhead_63 : decode cX9_isAhead 63 = .ok (.iconst 0, 1) := by decide +kernel
theorem dX9_isAhead_64 : decode cX9_isAhead 64 = .ok (.ireturn, 1) := by decide +kernel
theorem dX9_ruleAt_0 : decode cX9_ruleAt 0 = .ok (.iconst (-1), 1) := by decide +kernel
theorem dX9_ruleAt_1 : decode cX9_ruleAt 1 = .ok (.istore 4, 2) := by decide +kernel
theorem dX9_ruleAt_3 : decode cX9_ruleAt 3 = .ok (.iconst 0, 1) := by decide +kernel
theorem dX9_ruleAt_4 : decode cX9_ruleAt 4 = .ok (.istore 5, 2) := by decide +kernel
theorem dX9_ruleAt_6 : decode cX9_ruleAt 6 = .ok (.iload 5, 2) := by decide +kernel
theorem dX9_ruleAt_8 : decode cX9_ruleAt 8 = .ok (.aload_n 0, 1) := by decide +kernel
theorem dX9_ruleAt_9 : decode cX9_ruleAt 9 = .ok (.getfield 186, 3) := by decide +kernel
theorem dX9_ruleAt_12 : decode cX9_ruleAt 12 = .ok (.if_icmp .ge 47, 3) := by decide +kernel
theorem dX9_ruleAt_15 : decode cX9_ruleAt 15 = .ok (.aload_n 0, 1) := by decide +kernel
theorem dX9_ruleAt_16 : decode cX9_ruleAt 16 = .ok (.iload 5, 2) := by decide +kernel
theorem dX9_ruleAt_18 : decode cX9_ruleAt 18 = .ok (.iload_n 1, 1) := by decide +kernel
theorem dX9_ruleAt_19 : decode cX9_ruleAt 19 = .ok (.iload_n 2, 1) := by decide +kernel
theorem dX9_ruleAt_20 : decode cX9_ruleAt 20 = .ok (.iload_n 3, 1) := by decide +kernel
theorem dX9_ruleAt_21 : decode cX9_ruleAt 21 = .ok (.invokevirtual 198, 3) := by decide +kernel
theorem dX9_ruleAt_24 : decode cX9_ruleAt 24 = .ok (.ifCond .eq 25, 3) := by decide +kernel
theorem dX9_ruleAt_27 : decode cX9_ruleAt 27 = .ok (.iload 4, 2) := by decide +kernel
theorem dX9_ruleAt_29 : decode cX9_ruleAt 29 = .ok (.iconst (-1), 1) := by decide +kernel
theorem dX9_ruleAt_30 : decode cX9_ruleAt 30 = .ok (.if_icmp .eq 14, 3) := by decide +kernel
theorem dX9_ruleAt_33 : decode cX9_ruleAt 33 = .ok (.aload_n 0, 1) := by decide +kernel
theorem dX9_ruleAt_34 : decode cX9_ruleAt 34 = .ok (.iload 5, 2) := by decide +kernel
theorem dX9_ruleAt_36 : decode cX9_ruleAt 36 = .ok (.iload 4, 2) := by decide +kernel
theorem dX9_ruleAt_38 : decode cX9_ruleAt 38 = .ok (.invokevirtual 202, 3) := by decide +kernel
theorem dX9_ruleAt_41 : decode cX9_ruleAt 41 = .ok (.ifCond .eq 8, 3) := by decide +kernel
theorem dX9_ruleAt_44 : decode cX9_ruleAt 44 = .ok (.iload 5, 2) := by decide +kernel
theorem dX9_ruleAt_46 : decode cX9_ruleAt 46 = .ok (.goto 5, 3) := by decide +kernel
theorem dX9_ruleAt_49 : decode cX9_ruleAt 49 = .ok (.iload 4, 2) := by decide +kernel
theorem dX9_ruleAt_51 : decode cX9_ruleAt 51 = .ok (.istore 4, 2) := by decide +kernel
theorem dX9_ruleAt_53 : decode cX9_ruleAt 53 = .ok (.iinc 5 1, 3) := by decide +kernel
theorem dX9_ruleAt_56 : decode cX9_ruleAt 56 = .ok (.goto (-50), 3) := by decide +kernel
theorem dX9_ruleAt_59 : decode cX9_ruleAt 59 = .ok (.iload 4, 2) := by decide +kernel
theorem dX9_ruleAt_61 : decode cX9_ruleAt 61 = .ok (.ireturn, 1) := by decide +kernel
theorem dX9_rule_0 : decode cX9_rule 0 = .ok (.aload_n 0, 1) := by decide +kernel
theorem dX9_rule_1 : decode cX9_rule 1 = .ok (.iload_n 1, 1) := by decide +kernel
theorem dX9_rule_2 : decode cX9_rule 2 = .ok (.invokestatic 160, 3) := by decide +kernel
theorem dX9_rule_5 : decode cX9_rule 5 = .ok (.ifCond .eq 14, 3) := by decide +kernel
theorem dX9_rule_8 : decode cX9_rule 8 = .ok (.iload_n 2, 1) := by decide +kernel
theorem dX9_rule_9 : decode cX9_rule 9 = .ok (.invokestatic 164, 3) := by decide +kernel
theorem dX9_rule_12 : decode cX9_rule 12 = .ok (.ifCond .eq 7, 3) := by decide +kernel
theorem dX9_rule_15 : decode cX9_rule 15 = .ok (.iconst 1, 1) := by decide +kernel
theorem dX9_rule_16 : decode cX9_rule 16 = .ok (.goto 4, 3) := by decide +kernel
theorem dX9_rule_19 : decode cX9_rule 19 = .ok (.iconst 0, 1) := by decide +kernel
theorem dX9_rule_20 : decode cX9_rule 20 = .ok (.iload_n 3, 1) := by decide +kernel
theorem dX9_rule_21 : decode cX9_rule 21 = .ok (.iconst 0, 1) := by decide +kernel
theorem dX9_rule_22 : decode cX9_rule 22 = .ok (.ldc 193, 2) := by decide +kernel
theorem dX9_rule_24 : decode cX9_rule 24 = .ok (.invokestatic 153, 3) := by decide +kernel
theorem dX9_rule_27 : decode cX9_rule 27 = .ok (.iconst 1, 1) := by decide +kernel
theorem dX9_rule_28 : decode cX9_rule 28 = .ok (.invokevirtual 167, 3) := by decide +kernel
theorem dX9_rule_31 : decode cX9_rule 31 = .ok (.ifCond .eq 13, 3) := by decide +kernel
theorem dX9_rule_34 : decode cX9_rule 34 = .ok (.aload_n 0, 1) := by decide +kernel
theorem dX9_rule_35 : decode cX9_rule 35 = .ok (.iload_n 1, 1) := by decide +kernel
theorem dX9_rule_36 : decode cX9_rule 36 = .ok (.iload_n 2, 1) := by decide +kernel
theorem dX9_rule_37 : decode cX9_rule 37 = .ok (.iload_n 3, 1) := by decide +kernel
theorem dX9_rule_38 : decode cX9_rule 38 = .ok (.invokevirtual 205, 3) := by decide +kernel
theorem dX9_rule_41 : decode cX9_rule 41 = .ok (.goto 4, 3) := by decide +kernel
theorem dX9_rule_44 : decode cX9_rule 44 = .ok (.iconst 0, 1) := by decide +kernel
theorem dX9_rule_45 : decode cX9_rule 45 = .ok (.ireturn, 1) := by decide +kernel
theorem dX9_ruleAnew_0 : decode cX9_ruleAnew 0 = .ok (.aload_n 0, 1) := by decide +kernel
theorem dX9_ruleAnew_1 : decode cX9_ruleAnew 1 = .ok (.iload_n 1, 1) := by decide +kernel
theorem dX9_ruleAnew_2 : decode cX9_ruleAnew 2 = .ok (.iload_n 2, 1) := by decide +kernel
theorem dX9_ruleAnew_3 : decode cX9_ruleAnew 3 = .ok (.iload_n 3, 1) := by decide +kernel
theorem dX9_ruleAnew_4 : decode cX9_ruleAnew 4 = .ok (.invokevirtual 209, 3) := by decide +kernel
theorem dX9_ruleAnew_7 : decode cX9_ruleAnew 7 = .ok (.ireturn, 1) := by decide +kernel
theorem dX9_car_0 : decode cX9_car 0 = .ok (.aload_n 0, 1) := by decide +kernel
theorem dX9_car_1 : decode cX9_car 1 = .ok (.iload_n 1, 1) := by decide +kernel
theorem dX9_car_2 : decode cX9_car 2 = .ok (.iconst 3, 1) := by decide +kernel
theorem dX9_car_3 : decode cX9_car 3 = .ok (.bipush 12, 2) := by decide +kernel
theorem dX9_car_5 : decode cX9_car 5 = .ok (.invokestatic 153, 3) := by decide +kernel
theorem dX9_car_8 : decode cX9_car 8 = .ok (.ifCond .eq 16, 3) := by decide +kernel
theorem dX9_car_11 : decode cX9_car 11 = .ok (.iload_n 2, 1) := by decide +kernel
theorem dX9_car_12 : decode cX9_car 12 = .ok (.iconst 0, 1) := by decide +kernel
theorem dX9_car_13 : decode cX9_car 13 = .ok (.iconst 4, 1) := by decide +kernel
theorem dX9_car_14 : decode cX9_car 14 = .ok (.invokestatic 153, 3) := by decide +kernel
theorem dX9_car_17 : decode cX9_car 17 = .ok (.ifCond .eq 7, 3) := by decide +kernel
theorem dX9_car_20 : decode cX9_car 20 = .ok (.iconst 1, 1) := by decide +kernel
theorem dX9_car_21 : decode cX9_car 21 = .ok (.goto 4, 3) := by decide +kernel
theorem dX9_car_24 : decode cX9_car 24 = .ok (.iconst 0, 1) := by decide +kernel
theorem dX9_car_25 : decode cX9_car 25 = .ok (.aload_n 0, 1) := by decide +kernel
theorem dX9_car_26 : decode cX9_car 26 = .ok (.getfield 157, 3) := by decide +kernel
theorem dX9_car_29 : decode cX9_car 29 = .ok (.bipush 30, 2) := by decide +kernel
theorem dX9_car_31 : decode cX9_car 31 = .ok (.if_icmp .ge 7, 3) := by decide +kernel
theorem dX9_car_34 : decode cX9_car 34 = .ok (.iconst 1, 1) := by decide +kernel
theorem dX9_car_35 : decode cX9_car 35 = .ok (.goto 4, 3) := by decide +kernel
theorem dX9_car_38 : decode cX9_car 38 = .ok (.iconst 0, 1) := by decide +kernel
theorem dX9_car_39 : decode cX9_car 39 = .ok (.iconst 1, 1) := by decide +kernel
theorem dX9_car_40 : decode cX9_car 40 = .ok (.invokevirtual 167, 3) := by decide +kernel
theorem dX9_car_43 : decode cX9_car 43 = .ok (.ifCond .ne 5, 3) := by decide +kernel
theorem dX9_car_46 : decode cX9_car 46 = .ok (.iconst 0, 1) := by decide +kernel
theorem dX9_car_47 : decode cX9_car 47 = .ok (.ireturn, 1) := by decide +kernel
theorem dX9_car_48 : decode cX9_car 48 = .ok (.aload_n 0, 1) := by decide +kernel
theorem dX9_car_49 : decode cX9_car 49 = .ok (.getfield 56, 3) := by decide +kernel
theorem dX9_car_52 : decode cX9_car 52 = .ok (.aload_n 0, 1) := by decide +kernel
theorem dX9_car_53 : decode cX9_car 53 = .ok (.getfield 157, 3) := by decide +kernel
theorem dX9_car_56 : decode cX9_car 56 = .ok (.iload_n 1, 1) := by decide +kernel
theorem dX9_car_57 : decode cX9_car 57 = .ok (.iastore, 1) := by decide +kernel
theorem dX9_car_58 : decode cX9_car 58 = .ok (.aload_n 0, 1) := by decide +kernel
theorem dX9_car_59 : decode cX9_car 59 = .ok (.getfield 59, 3) := by decide +kernel
theorem dX9_car_62 : decode cX9_car 62 = .ok (.aload_n 0, 1) := by decide +kernel
theorem dX9_car_63 : decode cX9_car 63 = .ok (.getfield 157, 3) := by decide +kernel
theorem dX9_car_66 : decode cX9_car 66 = .ok (.iload_n 2, 1) := by decide +kernel
theorem dX9_car_67 : decode cX9_car 67 = .ok (.iastore, 1) := by decide +kernel
theorem dX9_car_68 : decode cX9_car 68 = .ok (.aload_n 0, 1) := by decide +kernel
theorem dX9_car_69 : decode cX9_car 69 = .ok (.getfield 62, 3) := by decide +kernel
theorem dX9_car_72 : decode cX9_car 72 = .ok (.aload_n 0, 1) := by decide +kernel
theorem dX9_car_73 : decode cX9_car 73 = .ok (.getfield 157, 3) := by decide +kernel
theorem dX9_car_76 : decode cX9_car 76 = .ok (.iconst (-1), 1) := by decide +kernel
theorem dX9_car_77 : decode cX9_car 77 = .ok (.iastore, 1) := by decide +kernel
theorem dX9_car_78 : decode cX9_car 78 = .ok (.aload_n 0, 1) := by decide +kernel
theorem dX9_car_79 : decode cX9_car 79 = .ok (.dup, 1) := by decide +kernel
theorem dX9_car_80 : decode cX9_car 80 = .ok (.getfield 157, 3) := by decide +kernel
theorem dX9_car_83 : decode cX9_car 83 = .ok (.iconst 1, 1) := by decide +kernel
theorem dX9_car_84 : decode cX9_car 84 = .ok (.iadd, 1) := by decide +kernel
theorem dX9_car_85 : decode cX9_car 85 = .ok (.putfield 157, 3) := by decide +kernel
theorem dX9_car_88 : decode cX9_car 88 = .ok (.aload_n 0, 1) := by decide +kernel
theorem dX9_car_89 : decode cX9_car 89 = .ok (.getfield 157, 3) := by decide +kernel
theorem dX9_car_92 : decode cX9_car 92 = .ok (.iconst 1, 1) := by decide +kernel
theorem dX9_car_93 : decode cX9_car 93 = .ok (.isub, 1) := by decide +kernel
theorem dX9_car_94 : decode cX9_car 94 = .ok (.ireturn, 1) := by decide +kernel
theorem dX9_ofHome_0 : decode cX9_ofHome 0 = .ok (.iconst 0, 1) := by decide +kernel
theorem dX9_ofHome_1 : decode cX9_ofHome 1 = .ok (.istore_n 3, 1) := by decide +kernel
theorem dX9_ofHome_2 : decode cX9_ofHome 2 = .ok (.iconst 0, 1) := by decide +kernel
theorem dX9_ofHome_3 : decode cX9_ofHome 3 = .ok (.istore 4, 2) := by decide +kernel
theorem dX9_ofHome_5 : decode cX9_ofHome 5 = .ok (.iload 4, 2) := by decide +kernel
theorem dX9_ofHome_7 : decode cX9_ofHome 7 = .ok (.aload_n 0, 1) := by decide +kernel
theorem dX9_ofHome_8 : decode cX9_ofHome 8 = .ok (.getfield 212, 3) := by decide +kernel
theorem dX9_ofHome_11 : decode cX9_ofHome 11 = .ok (.if_icmp .ge 49, 3) := by decide +kernel
theorem dX9_ofHome_14 : decode cX9_ofHome 14 = .ok (.iload_n 3, 1) := by decide +kernel
theorem dX9_ofHome_15 : decode cX9_ofHome 15 = .ok (.aload_n 0, 1) := by decide +kernel
theorem dX9_ofHome_16 : decode cX9_ofHome 16 = .ok (.getfield 80, 3) := by decide +kernel
theorem dX9_ofHome_19 : decode cX9_ofHome 19 = .ok (.iload 4, 2) := by decide +kernel
theorem dX9_ofHome_21 : decode cX9_ofHome 21 = .ok (.iaload, 1) := by decide +kernel
theorem dX9_ofHome_22 : decode cX9_ofHome 22 = .ok (.iload_n 1, 1) := by decide +kernel
theorem dX9_ofHome_23 : decode cX9_ofHome 23 = .ok (.if_icmp .ne 28, 3) := by decide +kernel
theorem dX9_ofHome_26 : decode cX9_ofHome 26 = .ok (.iload_n 2, 1) := by decide +kernel
theorem dX9_ofHome_27 : decode cX9_ofHome 27 = .ok (.aload_n 0, 1) := by decide +kernel
theorem dX9_ofHome_28 : decode cX9_ofHome 28 = .ok (.getfield 83, 3) := by decide +kernel
theorem dX9_ofHome_31 : decode cX9_ofHome 31 = .ok (.iload 4, 2) := by decide +kernel
theorem dX9_ofHome_33 : decode cX9_ofHome 33 = .ok (.iaload, 1) := by decide +kernel
theorem dX9_ofHome_34 : decode cX9_ofHome 34 = .ok (.aload_n 0, 1) := by decide +kernel
theorem dX9_ofHome_35 : decode cX9_ofHome 35 = .ok (.getfield 86, 3) := by decide +kernel
theorem dX9_ofHome_38 : decode cX9_ofHome 38 = .ok (.iload 4, 2) := by decide +kernel
theorem dX9_ofHome_40 : decode cX9_ofHome 40 = .ok (.iaload, 1) := by decide +kernel
theorem dX9_ofHome_41 : decode cX9_ofHome 41 = .ok (.invokestatic 153, 3) := by decide +kernel
theorem dX9_ofHome_44 : decode cX9_ofHome 44 = .ok (.ifCond .eq 7, 3) := by decide +kernel
theorem dX9_ofHome_47 : decode cX9_ofHome 47 = .ok (.iconst 1, 1) := by decide +kernel
theorem dX9_ofHome_48 : decode cX9_ofHome 48 = .ok (.goto 4, 3) := by decide +kernel
theorem dX9_ofHome_51 : decode cX9_ofHome 51 = .ok (.iconst 0, 1) := by decide +kernel
theorem dX9_ofHome_52 : decode cX9_ofHome 52 = .ok (.iadd, 1) := by decide +kernel
theorem dX9_ofHome_53 : decode cX9_ofHome 53 = .ok (.istore_n 3, 1) := by decide +kernel
theorem dX9_ofHome_54 : decode cX9_ofHome 54 = .ok (.iinc 4 1, 3) := by decide +kernel
theorem dX9_ofHome_57 : decode cX9_ofHome 57 = .ok (.goto (-52), 3) := by decide +kernel
theorem dX9_ofHome_60 : decode cX9_ofHome 60 = .ok (.iload_n 3, 1) := by decide +kernel
theorem dX9_ofHome_61 : decode cX9_ofHome 61 = .ok (.ireturn, 1) := by decide +kernel
theorem dX9_hasRoom_0 : decode cX9_hasRoom 0 = .ok (.iconst 1, 1) := by decide +kernel
theorem dX9_hasRoom_1 : decode cX9_hasRoom 1 = .ok (.istore 4, 2) := by decide +kernel
theorem dX9_hasRoom_3 : decode cX9_hasRoom 3 = .ok (.iload_n 2, 1) := by decide +kernel
theorem dX9_hasRoom_4 : decode cX9_hasRoom 4 = .ok (.istore 5, 2) := by decide +kernel
theorem dX9_hasRoom_6 : decode cX9_hasRoom 6 = .ok (.iload 5, 2) := by decide +kernel
theorem dX9_hasRoom_8 : decode cX9_hasRoom 8 = .ok (.iload_n 3, 1) := by decide +kernel
theorem dX9_hasRoom_9 : decode cX9_hasRoom 9 = .ok (.if_icmp .gt 32, 3) := by decide +kernel
theorem dX9_hasRoom_12 : decode cX9_hasRoom 12 = .ok (.iload 4, 2) := by decide +kernel
theorem dX9_hasRoom_14 : decode cX9_hasRoom 14 = .ok (.ifCond .eq 27, 3) := by decide +kernel
theorem dX9_hasRoom_17 : decode cX9_hasRoom 17 = .ok (.aload_n 0, 1) := by decide +kernel
theorem dX9_hasRoom_18 : decode cX9_hasRoom 18 = .ok (.iload_n 1, 1) := by decide +kernel
theorem dX9_hasRoom_19 : decode cX9_hasRoom 19 = .ok (.iload 5, 2) := by decide +kernel
theorem dX9_hasRoom_21 : decode cX9_hasRoom 21 = .ok (.invokevirtual 215, 3) := by decide +kernel
theorem dX9_hasRoom_24 : decode cX9_hasRoom 24 = .ok (.iconst 2, 1) := by decide +kernel
theorem dX9_hasRoom_25 : decode cX9_hasRoom 25 = .ok (.if_icmp .ge 7, 3) := by decide +kernel
theorem dX9_hasRoom_28 : decode cX9_hasRoom 28 = .ok (.iconst 1, 1) := by decide +kernel
theorem dX9_hasRoom_29 : decode cX9_hasRoom 29 = .ok (.goto 4, 3) := by decide +kernel
theorem dX9_hasRoom_32 : decode cX9_hasRoom 32 = .ok (.iconst 0, 1) := by decide +kernel
theorem dX9_hasRoom_33 : decode cX9_hasRoom 33 = .ok (.istore 4, 2) := by decide +kernel
theorem dX9_hasRoom_35 : decode cX9_hasRoom 35 = .ok (.iinc 5 1, 3) := by decide +kernel
theorem dX9_hasRoom_38 : decode cX9_hasRoom 38 = .ok (.goto (-32), 3) := by decide +kernel
theorem dX9_hasRoom_41 : decode cX9_hasRoom 41 = .ok (.iload 4, 2) := by decide +kernel
theorem dX9_hasRoom_43 : decode cX9_hasRoom 43 = .ok (.ireturn, 1) := by decide +kernel
theorem dX9_permit_0 : decode cX9_permit 0 = .ok (.iload 4, 2) := by decide +kernel
theorem dX9_permit_2 : decode cX9_permit 2 = .ok (.iconst 0, 1) := by decide +kernel
theorem dX9_permit_3 : decode cX9_permit 3 = .ok (.sipush 520, 3) := by decide +kernel
theorem dX9_permit_6 : decode cX9_permit 6 = .ok (.invokestatic 153, 3) := by decide +kernel
theorem dX9_permit_9 : decode cX9_permit 9 = .ok (.ifCond .eq 20, 3) := by decide +kernel
theorem dX9_permit_12 : decode cX9_permit 12 = .ok (.iload 5, 2) := by decide +kernel
theorem dX9_permit_14 : decode cX9_permit 14 = .ok (.iload 4, 2) := by decide +kernel
theorem dX9_permit_16 : decode cX9_permit 16 = .ok (.sipush 520, 3) := by decide +kernel
theorem dX9_permit_19 : decode cX9_permit 19 = .ok (.invokestatic 153, 3) := by decide +kernel
theorem dX9_permit_22 : decode cX9_permit 22 = .ok (.ifCond .eq 7, 3) := by decide +kernel
theorem dX9_permit_25 : decode cX9_permit 25 = .ok (.iconst 1, 1) := by decide +kernel
theorem dX9_permit_26 : decode cX9_permit 26 = .ok (.goto 4, 3) := by decide +kernel
theorem dX9_permit_29 : decode cX9_permit 29 = .ok (.iconst 0, 1) := by decide +kernel
theorem dX9_permit_30 : decode cX9_permit 30 = .ok (.istore 6, 2) := by decide +kernel
theorem dX9_permit_32 : decode cX9_permit 32 = .ok (.aload_n 0, 1) := by decide +kernel
theorem dX9_permit_33 : decode cX9_permit 33 = .ok (.aload_n 0, 1) := by decide +kernel
theorem dX9_permit_34 : decode cX9_permit 34 = .ok (.iload_n 1, 1) := by decide +kernel
theorem dX9_permit_35 : decode cX9_permit 35 = .ok (.invokevirtual 219, 3) := by decide +kernel
theorem dX9_permit_38 : decode cX9_permit 38 = .ok (.ifCond .eq 24, 3) := by decide +kernel
theorem dX9_permit_41 : decode cX9_permit 41 = .ok (.iload_n 2, 1) := by decide +kernel
theorem dX9_permit_42 : decode cX9_permit 42 = .ok (.invokestatic 160, 3) := by decide +kernel
theorem dX9_permit_45 : decode cX9_permit 45 = .ok (.ifCond .eq 17, 3) := by decide +kernel
theorem dX9_permit_48 : decode cX9_permit 48 = .ok (.iload_n 3, 1) := by decide +kernel
theorem dX9_permit_49 : decode cX9_permit 49 = .ok (.iconst 0, 1) := by decide +kernel
theorem dX9_permit_50 : decode cX9_permit 50 = .ok (.bipush 9, 2) := by decide +kernel
theorem dX9_permit_52 : decode cX9_permit 52 = .ok (.invokestatic 153, 3) := by decide +kernel
theorem dX9_permit_55 : decode cX9_permit 55 = .ok (.ifCond .eq 7, 3) := by decide +kernel
theorem dX9_permit_58 : decode cX9_permit 58 = .ok (.iconst 1, 1) := by decide +kernel
theorem dX9_permit_59 : decode cX9_permit 59 = .ok (.goto 4, 3) := by decide +kernel
theorem dX9_permit_62 : decode cX9_permit 62 = .ok (.iconst 0, 1) := by decide +kernel
theorem dX9_permit_63 : decode cX9_permit 63 = .ok (.iload 6, 2) := by decide +kernel
theorem dX9_permit_65 : decode cX9_permit 65 = .ok (.aload_n 0, 1) := by decide +kernel
theorem dX9_permit_66 : decode cX9_permit 66 = .ok (.getfield 212, 3) := by decide +kernel
theorem dX9_permit_69 : decode cX9_permit 69 = .ok (.bipush 40, 2) := by decide +kernel
theorem dX9_permit_71 : decode cX9_permit 71 = .ok (.if_icmp .ge 24, 3) := by decide +kernel
theorem dX9_permit_74 : decode cX9_permit 74 = .ok (.iload 6, 2) := by decide +kernel
theorem dX9_permit_76 : decode cX9_permit 76 = .ok (.ifCond .eq 19, 3) := by decide +kernel
theorem dX9_permit_79 : decode cX9_permit 79 = .ok (.aload_n 0, 1) := by decide +kernel
theorem dX9_permit_80 : decode cX9_permit 80 = .ok (.iload_n 3, 1) := by decide +kernel
theorem dX9_permit_81 : decode cX9_permit 81 = .ok (.iload 4, 2) := by decide +kernel
theorem dX9_permit_83 : decode cX9_permit 83 = .ok (.iload 5, 2) := by decide +kernel
theorem dX9_permit_85 : decode cX9_permit 85 = .ok (.invokevirtual 222, 3) := by decide +kernel
theorem dX9_permit_88 : decode cX9_permit 88 = .ok (.ifCond .eq 7, 3) := by decide +kernel
theorem dX9_permit_91 : decode cX9_permit 91 = .ok (.iconst 1, 1) := by decide +kernel
theorem dX9_permit_92 : decode cX9_permit 92 = .ok (.goto 4, 3) := by decide +kernel
theorem dX9_permit_95 : decode cX9_permit 95 = .ok (.iconst 0, 1) := by decide +kernel
theorem dX9_permit_96 : decode cX9_permit 96 = .ok (.invokevirtual 167, 3) := by decide +kernel
theorem dX9_permit_99 : decode cX9_permit 99 = .ok (.ifCond .ne 5, 3) := by decide +kernel
theorem dX9_permit_102 : decode cX9_permit 102 = .ok (.iconst 0, 1) := by decide +kernel
theorem dX9_permit_103 : decode cX9_permit 103 = .ok (.ireturn, 1) := by decide +kernel
theorem dX9_permit_104 : decode cX9_permit 104 = .ok (.aload_n 0, 1) := by decide +kernel
theorem dX9_permit_105 : decode cX9_permit 105 = .ok (.getfield 74, 3) := by decide +kernel
theorem dX9_permit_108 : decode cX9_permit 108 = .ok (.aload_n 0, 1) := by decide +kernel
theorem dX9_permit_109 : decode cX9_permit 109 = .ok (.getfield 212, 3) := by decide +kernel
end
section
theorem dX9_permit_112 : decode cX9_permit 112 = .ok (.iload_n 1, 1) := by decide +kernel
theorem dX9_permit_113 : decode cX9_permit 113 = .ok (.iastore, 1) := by decide +kernel
theorem dX9_permit_114 : decode cX9_permit 114 = .ok (.aload_n 0, 1) := by decide +kernel
theorem dX9_permit_115 : decode cX9_permit 115 = .ok (.getfield 77, 3) := by decide +kernel
theorem dX9_permit_118 : decode cX9_permit 118 = .ok (.aload_n 0, 1) := by decide +kernel
theorem dX9_permit_119 : decode cX9_permit 119 = .ok (.getfield 212, 3) := by decide +kernel
theorem dX9_permit_122 : decode cX9_permit 122 = .ok (.iload_n 2, 1) := by decide +kernel
theorem dX9_permit_123 : decode cX9_permit 123 = .ok (.iastore, 1) := by decide +kernel
theorem dX9_permit_124 : decode cX9_permit 124 = .ok (.aload_n 0, 1) := by decide +kernel
theorem dX9_permit_125 : decode cX9_permit 125 = .ok (.getfield 80, 3) := by decide +kernel
theorem dX9_permit_128 : decode cX9_permit 128 = .ok (.aload_n 0, 1) := by decide +kernel
theorem dX9_permit_129 : decode cX9_permit 129 = .ok (.getfield 212, 3) := by decide +kernel
theorem dX9_permit_132 : decode cX9_permit 132 = .ok (.iload_n 3, 1) := by decide +kernel
theorem dX9_permit_133 : decode cX9_permit 133 = .ok (.iastore, 1) := by decide +kernel
theorem dX9_permit_134 : decode cX9_permit 134 = .ok (.aload_n 0, 1) := by decide +kernel
theorem dX9_permit_135 : decode cX9_permit 135 = .ok (.getfield 83, 3) := by decide +kernel
theorem dX9_permit_138 : decode cX9_permit 138 = .ok (.aload_n 0, 1) := by decide +kernel
theorem dX9_permit_139 : decode cX9_permit 139 = .ok (.getfield 212, 3) := by decide +kernel
theorem dX9_permit_142 : decode cX9_permit 142 = .ok (.iload 4, 2) := by decide +kernel
theorem dX9_permit_144 : decode cX9_permit 144 = .ok (.iastore, 1) := by decide +kernel
theorem dX9_permit_145 : decode cX9_permit 145 = .ok (.aload_n 0, 1) := by decide +kernel
theorem dX9_permit_146 : decode cX9_permit 146 = .ok (.getfield 86, 3) := by decide +kernel
theorem dX9_permit_149 : decode cX9_permit 149 = .ok (.aload_n 0, 1) := by decide +kernel
theorem dX9_permit_150 : decode cX9_permit 150 = .ok (.getfield 212, 3) := by decide +kernel
theorem dX9_permit_153 : decode cX9_permit 153 = .ok (.iload 5, 2) := by decide +kernel
theorem dX9_permit_155 : decode cX9_permit 155 = .ok (.iastore, 1) := by decide +kernel
theorem dX9_permit_156 : decode cX9_permit 156 = .ok (.aload_n 0, 1) := by decide +kernel
theorem dX9_permit_157 : decode cX9_permit 157 = .ok (.dup, 1) := by decide +kernel
theorem dX9_permit_158 : decode cX9_permit 158 = .ok (.getfield 212, 3) := by decide +kernel
theorem dX9_permit_161 : decode cX9_permit 161 = .ok (.iconst 1, 1) := by decide +kernel
theorem dX9_permit_162 : decode cX9_permit 162 = .ok (.iadd, 1) := by decide +kernel
theorem dX9_permit_163 : decode cX9_permit 163 = .ok (.putfield 212, 3) := by decide +kernel
theorem dX9_permit_166 : decode cX9_permit 166 = .ok (.aload_n 0, 1) := by decide +kernel
theorem dX9_permit_167 : decode cX9_permit 167 = .ok (.getfield 212, 3) := by decide +kernel
theorem dX9_permit_170 : decode cX9_permit 170 = .ok (.iconst 1, 1) := by decide +kernel
theorem dX9_permit_171 : decode cX9_permit 171 = .ok (.isub, 1) := by decide +kernel
theorem dX9_permit_172 : decode cX9_permit 172 = .ok (.ireturn, 1) := by decide +kernel
theorem dX9_hand_0 : decode cX9_hand 0 = .ok (.aload_n 0, 1) := by decide +kernel
theorem dX9_hand_1 : decode cX9_hand 1 = .ok (.iload_n 1, 1) := by decide +kernel
theorem dX9_hand_2 : decode cX9_hand 2 = .ok (.iconst 0, 1) := by decide +kernel
theorem dX9_hand_3 : decode cX9_hand 3 = .ok (.aload_n 0, 1) := by decide +kernel
theorem dX9_hand_4 : decode cX9_hand 4 = .ok (.getfield 212, 3) := by decide +kernel
theorem dX9_hand_7 : decode cX9_hand 7 = .ok (.iconst 1, 1) := by decide +kernel
theorem dX9_hand_8 : decode cX9_hand 8 = .ok (.isub, 1) := by decide +kernel
theorem dX9_hand_9 : decode cX9_hand 9 = .ok (.invokestatic 153, 3) := by decide +kernel
theorem dX9_hand_12 : decode cX9_hand 12 = .ok (.ifCond .eq 15, 3) := by decide +kernel
theorem dX9_hand_15 : decode cX9_hand 15 = .ok (.aload_n 0, 1) := by decide +kernel
theorem dX9_hand_16 : decode cX9_hand 16 = .ok (.iload_n 2, 1) := by decide +kernel
theorem dX9_hand_17 : decode cX9_hand 17 = .ok (.invokevirtual 219, 3) := by decide +kernel
theorem dX9_hand_20 : decode cX9_hand 20 = .ok (.ifCond .eq 7, 3) := by decide +kernel
theorem dX9_hand_23 : decode cX9_hand 23 = .ok (.iconst 1, 1) := by decide +kernel
theorem dX9_hand_24 : decode cX9_hand 24 = .ok (.goto 4, 3) := by decide +kernel
theorem dX9_hand_27 : decode cX9_hand 27 = .ok (.iconst 0, 1) := by decide +kernel
theorem dX9_hand_28 : decode cX9_hand 28 = .ok (.iconst 1, 1) := by decide +kernel
theorem dX9_hand_29 : decode cX9_hand 29 = .ok (.iconst 1, 1) := by decide +kernel
theorem dX9_hand_30 : decode cX9_hand 30 = .ok (.invokevirtual 167, 3) := by decide +kernel
theorem dX9_hand_33 : decode cX9_hand 33 = .ok (.ifCond .ne 5, 3) := by decide +kernel
theorem dX9_hand_36 : decode cX9_hand 36 = .ok (.iconst 0, 1) := by decide +kernel
theorem dX9_hand_37 : decode cX9_hand 37 = .ok (.ireturn, 1) := by decide +kernel
theorem dX9_hand_38 : decode cX9_hand 38 = .ok (.aload_n 0, 1) := by decide +kernel
theorem dX9_hand_39 : decode cX9_hand 39 = .ok (.getfield 74, 3) := by decide +kernel
theorem dX9_hand_42 : decode cX9_hand 42 = .ok (.iload_n 1, 1) := by decide +kernel
theorem dX9_hand_43 : decode cX9_hand 43 = .ok (.iaload, 1) := by decide +kernel
theorem dX9_hand_44 : decode cX9_hand 44 = .ok (.istore_n 3, 1) := by decide +kernel
theorem dX9_hand_45 : decode cX9_hand 45 = .ok (.aload_n 0, 1) := by decide +kernel
theorem dX9_hand_46 : decode cX9_hand 46 = .ok (.getfield 74, 3) := by decide +kernel
theorem dX9_hand_49 : decode cX9_hand 49 = .ok (.iload_n 1, 1) := by decide +kernel
theorem dX9_hand_50 : decode cX9_hand 50 = .ok (.iload_n 2, 1) := by decide +kernel
theorem dX9_hand_51 : decode cX9_hand 51 = .ok (.iastore, 1) := by decide +kernel
theorem dX9_hand_52 : decode cX9_hand 52 = .ok (.iload_n 3, 1) := by decide +kernel
theorem dX9_hand_53 : decode cX9_hand 53 = .ok (.ireturn, 1) := by decide +kernel
theorem dX9_userOn_0 : decode cX9_userOn 0 = .ok (.aload_n 0, 1) := by decide +kernel
theorem dX9_userOn_1 : decode cX9_userOn 1 = .ok (.getfield 59, 3) := by decide +kernel
theorem dX9_userOn_4 : decode cX9_userOn 4 = .ok (.iload_n 1, 1) := by decide +kernel
theorem dX9_userOn_5 : decode cX9_userOn 5 = .ok (.iaload, 1) := by decide +kernel
theorem dX9_userOn_6 : decode cX9_userOn 6 = .ok (.ifCond .eq 7, 3) := by decide +kernel
theorem dX9_userOn_9 : decode cX9_userOn 9 = .ok (.iconst 1, 1) := by decide +kernel
theorem dX9_userOn_10 : decode cX9_userOn 10 = .ok (.goto 4, 3) := by decide +kernel
theorem dX9_userOn_13 : decode cX9_userOn 13 = .ok (.iconst 0, 1) := by decide +kernel
theorem dX9_userOn_14 : decode cX9_userOn 14 = .ok (.istore 4, 2) := by decide +kernel
theorem dX9_userOn_16 : decode cX9_userOn 16 = .ok (.iconst 0, 1) := by decide +kernel
theorem dX9_userOn_17 : decode cX9_userOn 17 = .ok (.istore 5, 2) := by decide +kernel
theorem dX9_userOn_19 : decode cX9_userOn 19 = .ok (.iload 5, 2) := by decide +kernel
theorem dX9_userOn_21 : decode cX9_userOn 21 = .ok (.aload_n 0, 1) := by decide +kernel
theorem dX9_userOn_22 : decode cX9_userOn 22 = .ok (.getfield 212, 3) := by decide +kernel
theorem dX9_userOn_25 : decode cX9_userOn 25 = .ok (.if_icmp .ge 64, 3) := by decide +kernel
theorem dX9_userOn_28 : decode cX9_userOn 28 = .ok (.iload 4, 2) := by decide +kernel
theorem dX9_userOn_30 : decode cX9_userOn 30 = .ok (.ifCond .ne 46, 3) := by decide +kernel
theorem dX9_userOn_33 : decode cX9_userOn 33 = .ok (.aload_n 0, 1) := by decide +kernel
theorem dX9_userOn_34 : decode cX9_userOn 34 = .ok (.getfield 74, 3) := by decide +kernel
theorem dX9_userOn_37 : decode cX9_userOn 37 = .ok (.iload 5, 2) := by decide +kernel
theorem dX9_userOn_39 : decode cX9_userOn 39 = .ok (.iaload, 1) := by decide +kernel
theorem dX9_userOn_40 : decode cX9_userOn 40 = .ok (.iload_n 1, 1) := by decide +kernel
theorem dX9_userOn_41 : decode cX9_userOn 41 = .ok (.if_icmp .ne 39, 3) := by decide +kernel
theorem dX9_userOn_44 : decode cX9_userOn 44 = .ok (.aload_n 0, 1) := by decide +kernel
theorem dX9_userOn_45 : decode cX9_userOn 45 = .ok (.getfield 77, 3) := by decide +kernel
theorem dX9_userOn_48 : decode cX9_userOn 48 = .ok (.iload 5, 2) := by decide +kernel
theorem dX9_userOn_50 : decode cX9_userOn 50 = .ok (.iaload, 1) := by decide +kernel
theorem dX9_userOn_51 : decode cX9_userOn 51 = .ok (.iload_n 2, 1) := by decide +kernel
theorem dX9_userOn_52 : decode cX9_userOn 52 = .ok (.if_icmp .ne 28, 3) := by decide +kernel
theorem dX9_userOn_55 : decode cX9_userOn 55 = .ok (.iload_n 3, 1) := by decide +kernel
theorem dX9_userOn_56 : decode cX9_userOn 56 = .ok (.aload_n 0, 1) := by decide +kernel
theorem dX9_userOn_57 : decode cX9_userOn 57 = .ok (.getfield 83, 3) := by decide +kernel
theorem dX9_userOn_60 : decode cX9_userOn 60 = .ok (.iload 5, 2) := by decide +kernel
theorem dX9_userOn_62 : decode cX9_userOn 62 = .ok (.iaload, 1) := by decide +kernel
theorem dX9_userOn_63 : decode cX9_userOn 63 = .ok (.aload_n 0, 1) := by decide +kernel
theorem dX9_userOn_64 : decode cX9_userOn 64 = .ok (.getfield 86, 3) := by decide +kernel
theorem dX9_userOn_67 : decode cX9_userOn 67 = .ok (.iload 5, 2) := by decide +kernel
theorem dX9_userOn_69 : decode cX9_userOn 69 = .ok (.iaload, 1) := by decide +kernel
theorem dX9_userOn_70 : decode cX9_userOn 70 = .ok (.invokestatic 153, 3) := by decide +kernel
theorem dX9_userOn_73 : decode cX9_userOn 73 = .ok (.ifCond .eq 7, 3) := by decide +kernel
theorem dX9_userOn_76 : decode cX9_userOn 76 = .ok (.iconst 1, 1) := by decide +kernel
theorem dX9_userOn_77 : decode cX9_userOn 77 = .ok (.goto 4, 3) := by decide +kernel
theorem dX9_userOn_80 : decode cX9_userOn 80 = .ok (.iconst 0, 1) := by decide +kernel
theorem dX9_userOn_81 : decode cX9_userOn 81 = .ok (.istore 4, 2) := by decide +kernel
theorem dX9_userOn_83 : decode cX9_userOn 83 = .ok (.iinc 5 1, 3) := by decide +kernel
theorem dX9_userOn_86 : decode cX9_userOn 86 = .ok (.goto (-67), 3) := by decide +kernel
theorem dX9_userOn_89 : decode cX9_userOn 89 = .ok (.iload 4, 2) := by decide +kernel
theorem dX9_userOn_91 : decode cX9_userOn 91 = .ok (.ifCond .eq 12, 3) := by decide +kernel
theorem dX9_userOn_94 : decode cX9_userOn 94 = .ok (.aload_n 0, 1) := by decide +kernel
theorem dX9_userOn_95 : decode cX9_userOn 95 = .ok (.getfield 59, 3) := by decide +kernel
theorem dX9_userOn_98 : decode cX9_userOn 98 = .ok (.iload_n 1, 1) := by decide +kernel
theorem dX9_userOn_99 : decode cX9_userOn 99 = .ok (.iaload, 1) := by decide +kernel
theorem dX9_userOn_100 : decode cX9_userOn 100 = .ok (.goto 4, 3) := by decide +kernel
theorem dX9_userOn_103 : decode cX9_userOn 103 = .ok (.iconst 4, 1) := by decide +kernel
theorem dX9_userOn_104 : decode cX9_userOn 104 = .ok (.ireturn, 1) := by decide +kernel
theorem dX9_countsAs_0 : decode cX9_countsAs 0 = .ok (.aload_n 0, 1) := by decide +kernel
theorem dX9_countsAs_1 : decode cX9_countsAs 1 = .ok (.aload_n 0, 1) := by decide +kernel
theorem dX9_countsAs_2 : decode cX9_countsAs 2 = .ok (.iload_n 1, 1) := by decide +kernel
theorem dX9_countsAs_3 : decode cX9_countsAs 3 = .ok (.invokevirtual 219, 3) := by decide +kernel
theorem dX9_countsAs_6 : decode cX9_countsAs 6 = .ok (.ifCond .eq 14, 3) := by decide +kernel
theorem dX9_countsAs_9 : decode cX9_countsAs 9 = .ok (.iload_n 2, 1) := by decide +kernel
theorem dX9_countsAs_10 : decode cX9_countsAs 10 = .ok (.invokestatic 160, 3) := by decide +kernel
theorem dX9_countsAs_13 : decode cX9_countsAs 13 = .ok (.ifCond .eq 7, 3) := by decide +kernel
theorem dX9_countsAs_16 : decode cX9_countsAs 16 = .ok (.iconst 1, 1) := by decide +kernel
theorem dX9_countsAs_17 : decode cX9_countsAs 17 = .ok (.goto 4, 3) := by decide +kernel
theorem dX9_countsAs_20 : decode cX9_countsAs 20 = .ok (.iconst 0, 1) := by decide +kernel
theorem dX9_countsAs_21 : decode cX9_countsAs 21 = .ok (.iconst 1, 1) := by decide +kernel
theorem dX9_countsAs_22 : decode cX9_countsAs 22 = .ok (.iconst 1, 1) := by decide +kernel
theorem dX9_countsAs_23 : decode cX9_countsAs 23 = .ok (.invokevirtual 167, 3) := by decide +kernel
theorem dX9_countsAs_26 : decode cX9_countsAs 26 = .ok (.ifCond .eq 19, 3) := by decide +kernel
theorem dX9_countsAs_29 : decode cX9_countsAs 29 = .ok (.aload_n 0, 1) := by decide +kernel
theorem dX9_countsAs_30 : decode cX9_countsAs 30 = .ok (.iload_n 1, 1) := by decide +kernel
theorem dX9_countsAs_31 : decode cX9_countsAs 31 = .ok (.iload_n 2, 1) := by decide +kernel
theorem dX9_countsAs_32 : decode cX9_countsAs 32 = .ok (.aload_n 0, 1) := by decide +kernel
theorem dX9_countsAs_33 : decode cX9_countsAs 33 = .ok (.getfield 189, 3) := by decide +kernel
theorem dX9_countsAs_36 : decode cX9_countsAs 36 = .ok (.bipush 96, 2) := by decide +kernel
theorem dX9_countsAs_38 : decode cX9_countsAs 38 = .ok (.idiv, 1) := by decide +kernel
theorem dX9_countsAs_39 : decode cX9_countsAs 39 = .ok (.invokevirtual 225, 3) := by decide +kernel
theorem dX9_countsAs_42 : decode cX9_countsAs 42 = .ok (.goto 4, 3) := by decide +kernel
theorem dX9_countsAs_45 : decode cX9_countsAs 45 = .ok (.iconst 0, 1) := by decide +kernel
theorem dX9_countsAs_46 : decode cX9_countsAs 46 = .ok (.ireturn, 1) := by decide +kernel
theorem dX9_isGap_0 : decode cX9_isGap 0 = .ok (.iload_n 2, 1) := by decide +kernel
theorem dX9_isGap_1 : decode cX9_isGap 1 = .ok (.iload_n 3, 1) := by decide +kernel
theorem dX9_isGap_2 : decode cX9_isGap 2 = .ok (.iadd, 1) := by decide +kernel
theorem dX9_isGap_3 : decode cX9_isGap 3 = .ok (.bipush 60, 2) := by decide +kernel
theorem dX9_isGap_5 : decode cX9_isGap 5 = .ok (.if_icmp .gt 7, 3) := by decide +kernel
theorem dX9_isGap_8 : decode cX9_isGap 8 = .ok (.iconst 1, 1) := by decide +kernel
theorem dX9_isGap_9 : decode cX9_isGap 9 = .ok (.goto 4, 3) := by decide +kernel
theorem dX9_isGap_12 : decode cX9_isGap 12 = .ok (.iconst 0, 1) := by decide +kernel
theorem dX9_isGap_13 : decode cX9_isGap 13 = .ok (.istore 4, 2) := by decide +kernel
theorem dX9_isGap_15 : decode cX9_isGap 15 = .ok (.iconst 0, 1) := by decide +kernel
theorem dX9_isGap_16 : decode cX9_isGap 16 = .ok (.istore 5, 2) := by decide +kernel
theorem dX9_isGap_18 : decode cX9_isGap 18 = .ok (.iload 5, 2) := by decide +kernel
theorem dX9_isGap_20 : decode cX9_isGap 20 = .ok (.aload_n 0, 1) := by decide +kernel
theorem dX9_isGap_21 : decode cX9_isGap 21 = .ok (.getfield 157, 3) := by decide +kernel
theorem dX9_isGap_24 : decode cX9_isGap 24 = .ok (.if_icmp .ge 76, 3) := by decide +kernel
theorem dX9_isGap_27 : decode cX9_isGap 27 = .ok (.aload_n 0, 1) := by decide +kernel
theorem dX9_isGap_28 : decode cX9_isGap 28 = .ok (.getfield 62, 3) := by decide +kernel
theorem dX9_isGap_31 : decode cX9_isGap 31 = .ok (.iload 5, 2) := by decide +kernel
theorem dX9_isGap_33 : decode cX9_isGap 33 = .ok (.iaload, 1) := by decide +kernel
theorem dX9_isGap_34 : decode cX9_isGap 34 = .ok (.iload_n 1, 1) := by decide +kernel
theorem dX9_isGap_35 : decode cX9_isGap 35 = .ok (.if_icmp .ne 35, 3) := by decide +kernel
theorem dX9_isGap_38 : decode cX9_isGap 38 = .ok (.aload_n 0, 1) := by decide +kernel
theorem dX9_isGap_39 : decode cX9_isGap 39 = .ok (.getfield 65, 3) := by decide +kernel
theorem dX9_isGap_42 : decode cX9_isGap 42 = .ok (.iload 5, 2) := by decide +kernel
theorem dX9_isGap_44 : decode cX9_isGap 44 = .ok (.iaload, 1) := by decide +kernel
theorem dX9_isGap_45 : decode cX9_isGap 45 = .ok (.iload_n 2, 1) := by decide +kernel
theorem dX9_isGap_46 : decode cX9_isGap 46 = .ok (.iload_n 3, 1) := by decide +kernel
theorem dX9_isGap_47 : decode cX9_isGap 47 = .ok (.iadd, 1) := by decide +kernel
theorem dX9_isGap_48 : decode cX9_isGap 48 = .ok (.if_icmp .gt 22, 3) := by decide +kernel
theorem dX9_isGap_51 : decode cX9_isGap 51 = .ok (.aload_n 0, 1) := by decide +kernel
theorem dX9_isGap_52 : decode cX9_isGap 52 = .ok (.getfield 65, 3) := by decide +kernel
theorem dX9_isGap_55 : decode cX9_isGap 55 = .ok (.iload 5, 2) := by decide +kernel
theorem dX9_isGap_57 : decode cX9_isGap 57 = .ok (.iaload, 1) := by decide +kernel
theorem dX9_isGap_58 : decode cX9_isGap 58 = .ok (.aload_n 0, 1) := by decide +kernel
theorem dX9_isGap_59 : decode cX9_isGap 59 = .ok (.getfield 56, 3) := by decide +kernel
theorem dX9_isGap_62 : decode cX9_isGap 62 = .ok (.iload 5, 2) := by decide +kernel
theorem dX9_isGap_64 : decode cX9_isGap 64 = .ok (.iaload, 1) := by decide +kernel
theorem dX9_isGap_65 : decode cX9_isGap 65 = .ok (.iadd, 1) := by decide +kernel
theorem dX9_isGap_66 : decode cX9_isGap 66 = .ok (.iload_n 2, 1) := by decide +kernel
theorem dX9_isGap_67 : decode cX9_isGap 67 = .ok (.if_icmp .ge 7, 3) := by decide +kernel
theorem dX9_isGap_70 : decode cX9_isGap 70 = .ok (.iconst 1, 1) := by decide +kernel
theorem dX9_isGap_71 : decode cX9_isGap 71 = .ok (.goto 4, 3) := by decide +kernel
theorem dX9_isGap_74 : decode cX9_isGap 74 = .ok (.iconst 0, 1) := by decide +kernel
theorem dX9_isGap_75 : decode cX9_isGap 75 = .ok (.istore 6, 2) := by decide +kernel
theorem dX9_isGap_77 : decode cX9_isGap 77 = .ok (.iload 4, 2) := by decide +kernel
theorem dX9_isGap_79 : decode cX9_isGap 79 = .ok (.ifCond .eq 12, 3) := by decide +kernel
theorem dX9_isGap_82 : decode cX9_isGap 82 = .ok (.iload 6, 2) := by decide +kernel
theorem dX9_isGap_84 : decode cX9_isGap 84 = .ok (.ifCond .eq 7, 3) := by decide +kernel
theorem dX9_isGap_87 : decode cX9_isGap 87 = .ok (.iconst 1, 1) := by decide +kernel
theorem dX9_isGap_88 : decode cX9_isGap 88 = .ok (.goto 4, 3) := by decide +kernel
theorem dX9_isGap_91 : decode cX9_isGap 91 = .ok (.iconst 0, 1) := by decide +kernel
theorem dX9_isGap_92 : decode cX9_isGap 92 = .ok (.istore 4, 2) := by decide +kernel
theorem dX9_isGap_94 : decode cX9_isGap 94 = .ok (.iinc 5 1, 3) := by decide +kernel
theorem dX9_isGap_97 : decode cX9_isGap 97 = .ok (.goto (-79), 3) := by decide +kernel
theorem dX9_isGap_100 : decode cX9_isGap 100 = .ok (.iload 4, 2) := by decide +kernel
theorem dX9_isGap_102 : decode cX9_isGap 102 = .ok (.ireturn, 1) := by decide +kernel
theorem dX9_park_0 : decode cX9_park 0 = .ok (.aload_n 0, 1) := by decide +kernel
theorem dX9_park_1 : decode cX9_park 1 = .ok (.iload_n 1, 1) := by decide +kernel
theorem dX9_park_2 : decode cX9_park 2 = .ok (.invokevirtual 219, 3) := by decide +kernel
theorem dX9_park_5 : decode cX9_park 5 = .ok (.ifCond .eq 21, 3) := by decide +kernel
theorem dX9_park_8 : decode cX9_park 8 = .ok (.iload_n 2, 1) := by decide +kernel
theorem dX9_park_9 : decode cX9_park 9 = .ok (.invokestatic 160, 3) := by decide +kernel
theorem dX9_park_12 : decode cX9_park 12 = .ok (.ifCond .eq 14, 3) := by decide +kernel
theorem dX9_park_15 : decode cX9_park 15 = .ok (.iload_n 3, 1) := by decide +kernel
theorem dX9_park_16 : decode cX9_park 16 = .ok (.invokestatic 164, 3) := by decide +kernel
theorem dX9_park_19 : decode cX9_park 19 = .ok (.ifCond .eq 7, 3) := by decide +kernel
theorem dX9_park_22 : decode cX9_park 22 = .ok (.iconst 1, 1) := by decide +kernel
theorem dX9_park_23 : decode cX9_park 23 = .ok (.goto 4, 3) := by decide +kernel
theorem dX9_park_26 : decode cX9_park 26 = .ok (.iconst 0, 1) := by decide +kernel
theorem dX9_park_27 : decode cX9_park 27 = .ok (.istore 4, 2) := by decide +kernel
theorem dX9_park_29 : decode cX9_park 29 = .ok (.aload_n 0, 1) := by decide +kernel
theorem dX9_park_30 : decode cX9_park 30 = .ok (.iload 4, 2) := by decide +kernel
theorem dX9_park_32 : decode cX9_park 32 = .ok (.iload 4, 2) := by decide +kernel
theorem dX9_park_34 : decode cX9_park 34 = .ok (.ifCond .eq 50, 3) := by decide +kernel
theorem dX9_park_37 : decode cX9_park 37 = .ok (.aload_n 0, 1) := by decide +kernel
theorem dX9_park_38 : decode cX9_park 38 = .ok (.getfield 62, 3) := by decide +kernel
theorem dX9_park_41 : decode cX9_park 41 = .ok (.iload 4, 2) := by decide +kernel
theorem dX9_park_43 : decode cX9_park 43 = .ok (.ifCond .eq 7, 3) := by decide +kernel
theorem dX9_park_46 : decode cX9_park 46 = .ok (.iload_n 1, 1) := by decide +kernel
theorem dX9_park_47 : decode cX9_park 47 = .ok (.goto 4, 3) := by decide +kernel
theorem dX9_park_50 : decode cX9_park 50 = .ok (.iconst 0, 1) := by decide +kernel
theorem dX9_park_51 : decode cX9_park 51 = .ok (.iaload, 1) := by decide +kernel
theorem dX9_park_52 : decode cX9_park 52 = .ok (.iconst (-1), 1) := by decide +kernel
theorem dX9_park_53 : decode cX9_park 53 = .ok (.if_icmp .ne 31, 3) := by decide +kernel
theorem dX9_park_56 : decode cX9_park 56 = .ok (.aload_n 0, 1) := by decide +kernel
theorem dX9_park_57 : decode cX9_park 57 = .ok (.iload_n 2, 1) := by decide +kernel
theorem dX9_park_58 : decode cX9_park 58 = .ok (.iload_n 3, 1) := by decide +kernel
theorem dX9_park_59 : decode cX9_park 59 = .ok (.aload_n 0, 1) := by decide +kernel
theorem dX9_park_60 : decode cX9_park 60 = .ok (.getfield 56, 3) := by decide +kernel
theorem dX9_park_63 : decode cX9_park 63 = .ok (.iload 4, 2) := by decide +kernel
theorem dX9_park_65 : decode cX9_park 65 = .ok (.ifCond .eq 7, 3) := by decide +kernel
theorem dX9_park_68 : decode cX9_park 68 = .ok (.iload_n 1, 1) := by decide +kernel
theorem dX9_park_69 : decode cX9_park 69 = .ok (.goto 4, 3) := by decide +kernel
theorem dX9_park_72 : decode cX9_park 72 = .ok (.iconst 0, 1) := by decide +kernel
theorem dX9_park_73 : decode cX9_park 73 = .ok (.iaload, 1) := by decide +kernel
theorem dX9_park_74 : decode cX9_park 74 = .ok (.invokevirtual 228, 3) := by decide +kernel
theorem dX9_park_77 : decode cX9_park 77 = .ok (.ifCond .eq 7, 3) := by decide +kernel
theorem dX9_park_80 : decode cX9_park 80 = .ok (.iconst 1, 1) := by decide +kernel
theorem dX9_park_81 : decode cX9_park 81 = .ok (.goto 4, 3) := by decide +kernel
theorem dX9_park_84 : decode cX9_park 84 = .ok (.iconst 0, 1) := by decide +kernel
theorem dX9_park_85 : decode cX9_park 85 = .ok (.iconst 1, 1) := by decide +kernel
theorem dX9_park_86 : decode cX9_park 86 = .ok (.invokevirtual 167, 3) := by decide +kernel
theorem dX9_park_89 : decode cX9_park 89 = .ok (.ifCond .eq 37, 3) := by decide +kernel
theorem dX9_park_92 : decode cX9_park 92 = .ok (.aload_n 0, 1) := by decide +kernel
theorem dX9_park_93 : decode cX9_park 93 = .ok (.getfield 62, 3) := by decide +kernel
theorem dX9_park_96 : decode cX9_park 96 = .ok (.iload_n 1, 1) := by decide +kernel
theorem dX9_park_97 : decode cX9_park 97 = .ok (.iload_n 2, 1) := by decide +kernel
theorem dX9_park_98 : decode cX9_park 98 = .ok (.iastore, 1) := by decide +kernel
theorem dX9_park_99 : decode cX9_park 99 = .ok (.aload_n 0, 1) := by decide +kernel
theorem dX9_park_100 : decode cX9_park 100 = .ok (.getfield 65, 3) := by decide +kernel
theorem dX9_park_103 : decode cX9_park 103 = .ok (.iload_n 1, 1) := by decide +kernel
theorem dX9_park_104 : decode cX9_park 104 = .ok (.iload_n 3, 1) := by decide +kernel
theorem dX9_park_105 : decode cX9_park 105 = .ok (.iastore, 1) := by decide +kernel
theorem dX9_park_106 : decode cX9_park 106 = .ok (.aload_n 0, 1) := by decide +kernel
theorem dX9_park_107 : decode cX9_park 107 = .ok (.getfield 68, 3) := by decide +kernel
theorem dX9_park_110 : decode cX9_park 110 = .ok (.iload_n 1, 1) := by decide +kernel
theorem dX9_park_111 : decode cX9_park 111 = .ok (.aload_n 0, 1) := by decide +kernel
theorem dX9_park_112 : decode cX9_park 112 = .ok (.getfield 189, 3) := by decide +kernel
theorem dX9_park_115 : decode cX9_park 115 = .ok (.iastore, 1) := by decide +kernel
theorem dX9_park_116 : decode cX9_park 116 = .ok (.aload_n 0, 1) := by decide +kernel
theorem dX9_park_117 : decode cX9_park 117 = .ok (.getfield 71, 3) := by decide +kernel
theorem dX9_park_120 : decode cX9_park 120 = .ok (.iload_n 1, 1) := by decide +kernel
theorem dX9_park_121 : decode cX9_park 121 = .ok (.dup2, 1) := by decide +kernel
theorem dX9_park_122 : decode cX9_park 122 = .ok (.iaload, 1) := by decide +kernel
theorem dX9_park_123 : decode cX9_park 123 = .ok (.iconst 1, 1) := by decide +kernel
theorem dX9_park_124 : decode cX9_park 124 = .ok (.iadd, 1) := by decide +kernel
theorem dX9_park_125 : decode cX9_park 125 = .ok (.iastore, 1) := by decide +kernel
theorem dX9_park_126 : decode cX9_park 126 = .ok (.return_, 1) := by decide +kernel
theorem dX9_leave_0 : decode cX9_leave 0 = .ok (.aload_n 0, 1) := by decide +kernel
theorem dX9_leave_1 : decode cX9_leave 1 = .ok (.iload_n 1, 1) := by decide +kernel
theorem dX9_leave_2 : decode cX9_leave 2 = .ok (.invokevirtual 219, 3) := by decide +kernel
theorem dX9_leave_5 : decode cX9_leave 5 = .ok (.istore_n 2, 1) := by decide +kernel
theorem dX9_leave_6 : decode cX9_leave 6 = .ok (.aload_n 0, 1) := by decide +kernel
theorem dX9_leave_7 : decode cX9_leave 7 = .ok (.iload_n 2, 1) := by decide +kernel
theorem dX9_leave_8 : decode cX9_leave 8 = .ok (.iload_n 2, 1) := by decide +kernel
theorem dX9_leave_9 : decode cX9_leave 9 = .ok (.ifCond .eq 25, 3) := by decide +kernel
theorem dX9_leave_12 : decode cX9_leave 12 = .ok (.aload_n 0, 1) := by decide +kernel
theorem dX9_leave_13 : decode cX9_leave 13 = .ok (.getfield 62, 3) := by decide +kernel
theorem dX9_leave_16 : decode cX9_leave 16 = .ok (.iload_n 2, 1) := by decide +kernel
theorem dX9_leave_17 : decode cX9_leave 17 = .ok (.ifCond .eq 7, 3) := by decide +kernel
theorem dX9_leave_20 : decode cX9_leave 20 = .ok (.iload_n 1, 1) := by decide +kernel
theorem dX9_leave_21 : decode cX9_leave 21 = .ok (.goto 4, 3) := by decide +kernel
theorem dX9_leave_24 : decode cX9_leave 24 = .ok (.iconst 0, 1) := by decide +kernel
theorem dX9_leave_25 : decode cX9_leave 25 = .ok (.iaload, 1) := by decide +kernel
theorem dX9_leave_26 : decode cX9_leave 26 = .ok (.iconst (-1), 1) := by decide +kernel
theorem dX9_leave_27 : decode cX9_leave 27 = .ok (.if_icmp .eq 7, 3) := by decide +kernel
theorem dX9_leave_30 : decode cX9_leave 30 = .ok (.iconst 1, 1) := by decide +kernel
theorem dX9_leave_31 : decode cX9_leave 31 = .ok (.goto 4, 3) := by decide +kernel
theorem dX9_leave_34 : decode cX9_leave 34 = .ok (.iconst 0, 1) := by decide +kernel
theorem dX9_leave_35 : decode cX9_leave 35 = .ok (.iconst 1, 1) := by decide +kernel
theorem dX9_leave_36 : decode cX9_leave 36 = .ok (.invokevirtual 167, 3) := by decide +kernel
theorem dX9_leave_39 : decode cX9_leave 39 = .ok (.ifCond .ne 5, 3) := by decide +kernel
theorem dX9_leave_42 : decode cX9_leave 42 = .ok (.iconst 0, 1) := by decide +kernel
theorem dX9_leave_43 : decode cX9_leave 43 = .ok (.ireturn, 1) := by decide +kernel
theorem dX9_leave_44 : decode cX9_leave 44 = .ok (.aload_n 0, 1) := by decide +kernel
theorem dX9_leave_45 : decode cX9_leave 45 = .ok (.getfield 62, 3) := by decide +kernel
theorem dX9_leave_48 : decode cX9_leave 48 = .ok (.iload_n 1, 1) := by decide +kernel
theorem dX9_leave_49 : decode cX9_leave 49 = .ok (.iconst (-1), 1) := by decide +kernel
theorem dX9_leave_50 : decode cX9_leave 50 = .ok (.iastore, 1) := by decide +kernel
theorem dX9_leave_51 : decode cX9_leave 51 = .ok (.aload_n 0, 1) := by decide +kernel
theorem dX9_leave_52 : decode cX9_leave 52 = .ok (.getfield 189, 3) := by decide +kernel
theorem dX9_leave_55 : decode cX9_leave 55 = .ok (.aload_n 0, 1) := by decide +kernel
theorem dX9_leave_56 : decode cX9_leave 56 = .ok (.getfield 68, 3) := by decide +kernel
theorem dX9_leave_59 : decode cX9_leave 59 = .ok (.iload_n 1, 1) := by decide +kernel
theorem dX9_leave_60 : decode cX9_leave 60 = .ok (.iaload, 1) := by decide +kernel
theorem dX9_leave_61 : decode cX9_leave 61 = .ok (.isub, 1) := by decide +kernel
theorem dX9_leave_62 : decode cX9_leave 62 = .ok (.ireturn, 1) := by decide +kernel
theorem dX9_gap_0 : decode cX9_gap 0 = .ok (.aload_n 0, 1) := by decide +kernel
theorem dX9_gap_1 : decode cX9_gap 1 = .ok (.iload_n 1, 1) := by decide +kernel
theorem dX9_gap_2 : decode cX9_gap 2 = .ok (.invokestatic 160, 3) := by decide +kernel
theorem dX9_gap_5 : decode cX9_gap 5 = .ok (.iload_n 2, 1) := by decide +kernel
theorem dX9_gap_6 : decode cX9_gap 6 = .ok (.iconst 3, 1) := by decide +kernel
theorem dX9_gap_7 : decode cX9_gap 7 = .ok (.bipush 12, 2) := by decide +kernel
theorem dX9_gap_9 : decode cX9_gap 9 = .ok (.invokestatic 153, 3) := by decide +kernel
theorem dX9_gap_12 : decode cX9_gap 12 = .ok (.iconst 1, 1) := by decide +kernel
theorem dX9_gap_13 : decode cX9_gap 13 = .ok (.invokevirtual 167, 3) := by decide +kernel
theorem dX9_gap_16 : decode cX9_gap 16 = .ok (.ifCond .ne 5, 3) := by decide +kernel
theorem dX9_gap_19 : decode cX9_gap 19 = .ok (.iconst 0, 1) := by decide +kernel
theorem dX9_gap_20 : decode cX9_gap 20 = .ok (.ireturn, 1) := by decide +kernel
theorem dX9_gap_21 : decode cX9_gap 21 = .ok (.iconst (-1), 1) := by decide +kernel
theorem dX9_gap_22 : decode cX9_gap 22 = .ok (.istore_n 3, 1) := by decide +kernel
theorem dX9_gap_23 : decode cX9_gap 23 = .ok (.bipush 59, 2) := by decide +kernel
theorem dX9_gap_25 : decode cX9_gap 25 = .ok (.istore 4, 2) := by decide +kernel
theorem dX9_gap_27 : decode cX9_gap 27 = .ok (.iload 4, 2) := by decide +kernel
theorem dX9_gap_29 : decode cX9_gap 29 = .ok (.ifCond .lt 27, 3) := by decide +kernel
theorem dX9_gap_32 : decode cX9_gap 32 = .ok (.aload_n 0, 1) := by decide +kernel
theorem dX9_gap_33 : decode cX9_gap 33 = .ok (.iload_n 1, 1) := by decide +kernel
theorem dX9_gap_34 : decode cX9_gap 34 = .ok (.iload 4, 2) := by decide +kernel
theorem dX9_gap_36 : decode cX9_gap 36 = .ok (.iload_n 2, 1) := by decide +kernel
theorem dX9_gap_37 : decode cX9_gap 37 = .ok (.invokevirtual 228, 3) := by decide +kernel
theorem dX9_gap_40 : decode cX9_gap 40 = .ok (.ifCond .eq 8, 3) := by decide +kernel
theorem dX9_gap_43 : decode cX9_gap 43 = .ok (.iload 4, 2) := by decide +kernel
theorem dX9_gap_45 : decode cX9_gap 45 = .ok (.goto 4, 3) := by decide +kernel
theorem dX9_gap_48 : decode cX9_gap 48 = .ok (.iload_n 3, 1) := by decide +kernel
theorem dX9_gap_49 : decode cX9_gap 49 = .ok (.istore_n 3, 1) := by decide +kernel
theorem dX9_gap_50 : decode cX9_gap 50 = .ok (.iinc 4 (-1), 3) := by decide +kernel
theorem dX9_gap_53 : decode cX9_gap 53 = .ok (.goto (-26), 3) := by decide +kernel
theorem dX9_gap_56 : decode cX9_gap 56 = .ok (.iload_n 3, 1) := by decide +kernel
theorem dX9_gap_57 : decode cX9_gap 57 = .ok (.ireturn, 1) := by decide +kernel
theorem dX9_pay_0 : decode cX9_pay 0 = .ok (.iload_n 3, 1) := by decide +kernel
theorem dX9_pay_1 : decode cX9_pay 1 = .ok (.aload_n 0, 1) := by decide +kernel
theorem dX9_pay_2 : decode cX9_pay 2 = .ok (.getfield 189, 3) := by decide +kernel
theorem dX9_pay_5 : decode cX9_pay 5 = .ok (.bipush 96, 2) := by decide +kernel
theorem dX9_pay_7 : decode cX9_pay 7 = .ok (.if_icmp .ge 7, 3) := by decide +kernel
theorem dX9_pay_10 : decode cX9_pay 10 = .ok (.iconst 0, 1) := by decide +kernel
theorem dX9_pay_11 : decode cX9_pay 11 = .ok (.goto 10, 3) := by decide +kernel
theorem dX9_pay_14 : decode cX9_pay 14 = .ok (.aload_n 0, 1) := by decide +kernel
theorem dX9_pay_15 : decode cX9_pay 15 = .ok (.getfield 189, 3) := by decide +kernel
theorem dX9_pay_18 : decode cX9_pay 18 = .ok (.bipush 96, 2) := by decide +kernel
theorem dX9_pay_20 : decode cX9_pay 20 = .ok (.isub, 1) := by decide +kernel
theorem dX9_pay_21 : decode cX9_pay 21 = .ok (.aload_n 0, 1) := by decide +kernel
theorem dX9_pay_22 : decode cX9_pay 22 = .ok (.getfield 189, 3) := by decide +kernel
theorem dX9_pay_25 : decode cX9_pay 25 = .ok (.invokestatic 153, 3) := by decide +kernel
theorem dX9_pay_28 : decode cX9_pay 28 = .ok (.ifCond .eq 18, 3) := by decide +kernel
theorem dX9_pay_31 : decode cX9_pay 31 = .ok (.iload 4, 2) := by decide +kernel
theorem dX9_pay_33 : decode cX9_pay 33 = .ok (.iconst 1, 1) := by decide +kernel
theorem dX9_pay_34 : decode cX9_pay 34 = .ok (.bipush 96, 2) := by decide +kernel
theorem dX9_pay_36 : decode cX9_pay 36 = .ok (.invokestatic 153, 3) := by decide +kernel
theorem dX9_pay_39 : decode cX9_pay 39 = .ok (.ifCond .eq 7, 3) := by decide +kernel
theorem dX9_pay_42 : decode cX9_pay 42 = .ok (.iconst 1, 1) := by decide +kernel
theorem dX9_pay_43 : decode cX9_pay 43 = .ok (.goto 4, 3) := by decide +kernel
theorem dX9_pay_46 : decode cX9_pay 46 = .ok (.iconst 0, 1) := by decide +kernel
theorem dX9_pay_47 : decode cX9_pay 47 = .ok (.istore 5, 2) := by decide +kernel
theorem dX9_pay_49 : decode cX9_pay 49 = .ok (.aload_n 0, 1) := by decide +kernel
theorem dX9_pay_50 : decode cX9_pay 50 = .ok (.aload_n 0, 1) := by decide +kernel
theorem dX9_pay_51 : decode cX9_pay 51 = .ok (.iload_n 1, 1) := by decide +kernel
theorem dX9_pay_52 : decode cX9_pay 52 = .ok (.invokevirtual 219, 3) := by decide +kernel
theorem dX9_pay_55 : decode cX9_pay 55 = .ok (.ifCond .eq 14, 3) := by decide +kernel
theorem dX9_pay_58 : decode cX9_pay 58 = .ok (.iload_n 2, 1) := by decide +kernel
theorem dX9_pay_59 : decode cX9_pay 59 = .ok (.invokestatic 160, 3) := by decide +kernel
theorem dX9_pay_62 : decode cX9_pay 62 = .ok (.ifCond .eq 7, 3) := by decide +kernel
theorem dX9_pay_65 : decode cX9_pay 65 = .ok (.iconst 1, 1) := by decide +kernel
theorem dX9_pay_66 : decode cX9_pay 66 = .ok (.goto 4, 3) := by decide +kernel
theorem dX9_pay_69 : decode cX9_pay 69 = .ok (.iconst 0, 1) := by decide +kernel
theorem dX9_pay_70 : decode cX9_pay 70 = .ok (.iload 5, 2) := by decide +kernel
theorem dX9_pay_72 : decode cX9_pay 72 = .ok (.aload_n 0, 1) := by decide +kernel
theorem dX9_pay_73 : decode cX9_pay 73 = .ok (.getfield 231, 3) := by decide +kernel
theorem dX9_pay_76 : decode cX9_pay 76 = .ok (.sipush 200, 3) := by decide +kernel
theorem dX9_pay_79 : decode cX9_pay 79 = .ok (.if_icmp .ge 7, 3) := by decide +kernel
theorem dX9_pay_82 : decode cX9_pay 82 = .ok (.iconst 1, 1) := by decide +kernel
theorem dX9_pay_83 : decode cX9_pay 83 = .ok (.goto 4, 3) := by decide +kernel
theorem dX9_pay_86 : decode cX9_pay 86 = .ok (.iconst 0, 1) := by decide +kernel
theorem dX9_pay_87 : decode cX9_pay 87 = .ok (.invokevirtual 167, 3) := by decide +kernel
theorem dX9_pay_90 : decode cX9_pay 90 = .ok (.ifCond .ne 5, 3) := by decide +kernel
theorem dX9_pay_93 : decode cX9_pay 93 = .ok (.iconst 0, 1) := by decide +kernel
theorem dX9_pay_94 : decode cX9_pay 94 = .ok (.ireturn, 1) := by decide +kernel
theorem dX9_pay_95 : decode cX9_pay 95 = .ok (.aload_n 0, 1) := by decide +kernel
theorem dX9_pay_96 : decode cX9_pay 96 = .ok (.getfield 89, 3) := by decide +kernel
theorem dX9_pay_99 : decode cX9_pay 99 = .ok (.aload_n 0, 1) := by decide +kernel
theorem dX9_pay_100 : decode cX9_pay 100 = .ok (.getfield 231, 3) := by decide +kernel
theorem dX9_pay_103 : decode cX9_pay 103 = .ok (.iload_n 1, 1) := by decide +kernel
theorem dX9_pay_104 : decode cX9_pay 104 = .ok (.iastore, 1) := by decide +kernel
theorem dX9_pay_105 : decode cX9_pay 105 = .ok (.aload_n 0, 1) := by decide +kernel
theorem dX9_pay_106 : decode cX9_pay 106 = .ok (.getfield 92, 3) := by decide +kernel
theorem dX9_pay_109 : decode cX9_pay 109 = .ok (.aload_n 0, 1) := by decide +kernel
theorem dX9_pay_110 : decode cX9_pay 110 = .ok (.getfield 231, 3) := by decide +kernel
theorem dX9_pay_113 : decode cX9_pay 113 = .ok (.iload_n 2, 1) := by decide +kernel
theorem dX9_pay_114 : decode cX9_pay 114 = .ok (.iastore, 1) := by decide +kernel
theorem dX9_pay_115 : decode cX9_pay 115 = .ok (.aload_n 0, 1) := by decide +kernel
theorem dX9_pay_116 : decode cX9_pay 116 = .ok (.getfield 95, 3) := by decide +kernel
theorem dX9_pay_119 : decode cX9_pay 119 = .ok (.aload_n 0, 1) := by decide +kernel
theorem dX9_pay_120 : decode cX9_pay 120 = .ok (.getfield 231, 3) := by decide +kernel
theorem dX9_pay_123 : decode cX9_pay 123 = .ok (.iload_n 3, 1) := by decide +kernel
theorem dX9_pay_124 : decode cX9_pay 124 = .ok (.iastore, 1) := by decide +kernel
theorem dX9_pay_125 : decode cX9_pay 125 = .ok (.aload_n 0, 1) := by decide +kernel
theorem dX9_pay_126 : decode cX9_pay 126 = .ok (.getfield 98, 3) := by decide +kernel
theorem dX9_pay_129 : decode cX9_pay 129 = .ok (.aload_n 0, 1) := by decide +kernel
theorem dX9_pay_130 : decode cX9_pay 130 = .ok (.getfield 231, 3) := by decide +kernel
theorem dX9_pay_133 : decode cX9_pay 133 = .ok (.iload 4, 2) := by decide +kernel
theorem dX9_pay_135 : decode cX9_pay 135 = .ok (.iastore, 1) := by decide +kernel
theorem dX9_pay_136 : decode cX9_pay 136 = .ok (.aload_n 0, 1) := by decide +kernel
theorem dX9_pay_137 : decode cX9_pay 137 = .ok (.dup, 1) := by decide +kernel
theorem dX9_pay_138 : decode cX9_pay 138 = .ok (.getfield 231, 3) := by decide +kernel
theorem dX9_pay_141 : decode cX9_pay 141 = .ok (.iconst 1, 1) := by decide +kernel
theorem dX9_pay_142 : decode cX9_pay 142 = .ok (.iadd, 1) := by decide +kernel
theorem dX9_pay_143 : decode cX9_pay 143 = .ok (.putfield 231, 3) := by decide +kernel
theorem dX9_pay_146 : decode cX9_pay 146 = .ok (.aload_n 0, 1) := by decide +kernel
theorem dX9_pay_147 : decode cX9_pay 147 = .ok (.getfield 137, 3) := by decide +kernel
theorem dX9_pay_150 : decode cX9_pay 150 = .ok (.iload_n 2, 1) := by decide +kernel
theorem dX9_pay_151 : decode cX9_pay 151 = .ok (.dup2, 1) := by decide +kernel
theorem dX9_pay_152 : decode cX9_pay 152 = .ok (.iaload, 1) := by decide +kernel
theorem dX9_pay_153 : decode cX9_pay 153 = .ok (.iload 4, 2) := by decide +kernel
theorem dX9_pay_155 : decode cX9_pay 155 = .ok (.aload_n 0, 1) := by decide +kernel
theorem dX9_pay_156 : decode cX9_pay 156 = .ok (.getfield 134, 3) := by decide +kernel
theorem dX9_pay_159 : decode cX9_pay 159 = .ok (.iload_n 2, 1) := by decide +kernel
theorem dX9_pay_160 : decode cX9_pay 160 = .ok (.iaload, 1) := by decide +kernel
theorem dX9_pay_161 : decode cX9_pay 161 = .ok (.imul, 1) := by decide +kernel
theorem dX9_pay_162 : decode cX9_pay 162 = .ok (.iadd, 1) := by decide +kernel
theorem dX9_pay_163 : decode cX9_pay 163 = .ok (.iastore, 1) := by decide +kernel
theorem dX9_pay_164 : decode cX9_pay 164 = .ok (.iload 4, 2) := by decide +kernel
theorem dX9_pay_166 : decode cX9_pay 166 = .ok (.aload_n 0, 1) := by decide +kernel
theorem dX9_pay_167 : decode cX9_pay 167 = .ok (.getfield 134, 3) := by decide +kernel
theorem dX9_pay_170 : decode cX9_pay 170 = .ok (.iload_n 2, 1) := by decide +kernel
theorem dX9_pay_171 : decode cX9_pay 171 = .ok (.iaload, 1) := by decide +kernel
theorem dX9_pay_172 : decode cX9_pay 172 = .ok (.imul, 1) := by decide +kernel
theorem dX9_pay_173 : decode cX9_pay 173 = .ok (.ireturn, 1) := by decide +kernel
theorem dX9_isCovered_0 : decode cX9_isCovered 0 = .ok (.iconst 0, 1) := by decide +kernel
theorem dX9_isCovered_1 : decode cX9_isCovered 1 = .ok (.istore 4, 2) := by decide +kernel
theorem dX9_isCovered_3 : decode cX9_isCovered 3 = .ok (.iconst 0, 1) := by decide +kernel
theorem dX9_isCovered_4 : decode cX9_isCovered 4 = .ok (.istore 5, 2) := by decide +kernel
theorem dX9_isCovered_6 : decode cX9_isCovered 6 = .ok (.iload 5, 2) := by decide +kernel
theorem dX9_isCovered_8 : decode cX9_isCovered 8 = .ok (.aload_n 0, 1) := by decide +kernel
theorem dX9_isCovered_9 : decode cX9_isCovered 9 = .ok (.getfield 231, 3) := by decide +kernel
theorem dX9_isCovered_12 : decode cX9_isCovered 12 = .ok (.if_icmp .ge 73, 3) := by decide +kernel
theorem dX9_isCovered_15 : decode cX9_isCovered 15 = .ok (.iload 4, 2) := by decide +kernel
theorem dX9_isCovered_17 : decode cX9_isCovered 17 = .ok (.ifCond .ne 55, 3) := by decide +kernel
theorem dX9_isCovered_20 : decode cX9_isCovered 20 = .ok (.aload_n 0, 1) := by decide +kernel
theorem dX9_isCovered_21 : decode cX9_isCovered 21 = .ok (.getfield 89, 3) := by decide +kernel
theorem dX9_isCovered_24 : decode cX9_isCovered 24 = .ok (.iload 5, 2) := by decide +kernel
theorem dX9_isCovered_26 : decode cX9_isCovered 26 = .ok (.iaload, 1) := by decide +kernel
theorem dX9_isCovered_27 : decode cX9_isCovered 27 = .ok (.iload_n 1, 1) := by decide +kernel
theorem dX9_isCovered_28 : decode cX9_isCovered 28 = .ok (.if_icmp .ne 48, 3) := by decide +kernel
theorem dX9_isCovered_31 : decode cX9_isCovered 31 = .ok (.aload_n 0, 1) := by decide +kernel
theorem dX9_isCovered_32 : decode cX9_isCovered 32 = .ok (.getfield 92, 3) := by decide +kernel
theorem dX9_isCovered_35 : decode cX9_isCovered 35 = .ok (.iload 5, 2) := by decide +kernel
theorem dX9_isCovered_37 : decode cX9_isCovered 37 = .ok (.iaload, 1) := by decide +kernel
theorem dX9_isCovered_38 : decode cX9_isCovered 38 = .ok (.iload_n 2, 1) := by decide +kernel
theorem dX9_isCovered_39 : decode cX9_isCovered 39 = .ok (.if_icmp .ne 37, 3) := by decide +kernel
theorem dX9_isCovered_42 : decode cX9_isCovered 42 = .ok (.iload_n 3, 1) := by decide +kernel
theorem dX9_isCovered_43 : decode cX9_isCovered 43 = .ok (.aload_n 0, 1) := by decide +kernel
theorem dX9_isCovered_44 : decode cX9_isCovered 44 = .ok (.getfield 95, 3) := by decide +kernel
theorem dX9_isCovered_47 : decode cX9_isCovered 47 = .ok (.iload 5, 2) := by decide +kernel
theorem dX9_isCovered_49 : decode cX9_isCovered 49 = .ok (.iaload, 1) := by decide +kernel
theorem dX9_isCovered_50 : decode cX9_isCovered 50 = .ok (.if_icmp .lt 26, 3) := by decide +kernel
theorem dX9_isCovered_53 : decode cX9_isCovered 53 = .ok (.iload_n 3, 1) := by decide +kernel
theorem dX9_isCovered_54 : decode cX9_isCovered 54 = .ok (.aload_n 0, 1) := by decide +kernel
theorem dX9_isCovered_55 : decode cX9_isCovered 55 = .ok (.getfield 95, 3) := by decide +kernel
theorem dX9_isCovered_58 : decode cX9_isCovered 58 = .ok (.iload 5, 2) := by decide +kernel
theorem dX9_isCovered_60 : decode cX9_isCovered 60 = .ok (.iaload, 1) := by decide +kernel
theorem dX9_isCovered_61 : decode cX9_isCovered 61 = .ok (.aload_n 0, 1) := by decide +kernel
theorem dX9_isCovered_62 : decode cX9_isCovered 62 = .ok (.getfield 98, 3) := by decide +kernel
theorem dX9_isCovered_65 : decode cX9_isCovered 65 = .ok (.iload 5, 2) := by decide +kernel
theorem dX9_isCovered_67 : decode cX9_isCovered 67 = .ok (.iaload, 1) := by decide +kernel
theorem dX9_isCovered_68 : decode cX9_isCovered 68 = .ok (.iadd, 1) := by decide +kernel
theorem dX9_isCovered_69 : decode cX9_isCovered 69 = .ok (.if_icmp .ge 7, 3) := by decide +kernel
theorem dX9_isCovered_72 : decode cX9_isCovered 72 = .ok (.iconst 1, 1) := by decide +kernel
theorem dX9_isCovered_73 : decode cX9_isCovered 73 = .ok (.goto 4, 3) := by decide +kernel
theorem dX9_isCovered_76 : decode cX9_isCovered 76 = .ok (.iconst 0, 1) := by decide +kernel
theorem dX9_isCovered_77 : decode cX9_isCovered 77 = .ok (.istore 4, 2) := by decide +kernel
theorem dX9_isCovered_79 : decode cX9_isCovered 79 = .ok (.iinc 5 1, 3) := by decide +kernel
theorem dX9_isCovered_82 : decode cX9_isCovered 82 = .ok (.goto (-76), 3) := by decide +kernel
theorem dX9_isCovered_85 : decode cX9_isCovered 85 = .ok (.iload 4, 2) := by decide +kernel
theorem dX9_isCovered_87 : decode cX9_isCovered 87 = .ok (.ireturn, 1) := by decide +kernel
theorem dX9_isBlockedAt_0 : decode cX9_isBlockedAt 0 = .ok (.iconst 0, 1) := by decide +kernel
theorem dX9_isBlockedAt_1 : decode cX9_isBlockedAt 1 = .ok (.istore_n 2, 1) := by decide +kernel
theorem dX9_isBlockedAt_2 : decode cX9_isBlockedAt 2 = .ok (.iconst 0, 1) := by decide +kernel
theorem dX9_isBlockedAt_3 : decode cX9_isBlockedAt 3 = .ok (.istore_n 3, 1) := by decide +kernel
theorem dX9_isBlockedAt_4 : decode cX9_isBlockedAt 4 = .ok (.iload_n 3, 1) := by decide +kernel
theorem dX9_isBlockedAt_5 : decode cX9_isBlockedAt 5 = .ok (.aload_n 0, 1) := by decide +kernel
theorem dX9_isBlockedAt_6 : decode cX9_isBlockedAt 6 = .ok (.getfield 56, 3) := by decide +kernel
theorem dX9_isBlockedAt_9 : decode cX9_isBlockedAt 9 = .ok (.iload_n 1, 1) := by decide +kernel
theorem dX9_isBlockedAt_10 : decode cX9_isBlockedAt 10 = .ok (.iaload, 1) := by decide +kernel
theorem dX9_isBlockedAt_11 : decode cX9_isBlockedAt 11 = .ok (.if_icmp .ge 45, 3) := by decide +kernel
theorem dX9_isBlockedAt_14 : decode cX9_isBlockedAt 14 = .ok (.iload_n 2, 1) := by decide +kernel
theorem dX9_isBlockedAt_15 : decode cX9_isBlockedAt 15 = .ok (.ifCond .ne 29, 3) := by decide +kernel
theorem dX9_isBlockedAt_18 : decode cX9_isBlockedAt 18 = .ok (.aload_n 0, 1) := by decide +kernel
theorem dX9_isBlockedAt_19 : decode cX9_isBlockedAt 19 = .ok (.getfield 7, 3) := by decide +kernel
theorem dX9_isBlockedAt_22 : decode cX9_isBlockedAt 22 = .ok (.bipush 60, 2) := by decide +kernel
theorem dX9_isBlockedAt_24 : decode cX9_isBlockedAt 24 = .ok (.aload_n 0, 1) := by decide +kernel
theorem dX9_isBlockedAt_25 : decode cX9_isBlockedAt 25 = .ok (.getfield 62, 3) := by decide +kernel
theorem dX9_isBlockedAt_28 : decode cX9_isBlockedAt 28 = .ok (.iload_n 1, 1) := by decide +kernel
theorem dX9_isBlockedAt_29 : decode cX9_isBlockedAt 29 = .ok (.iaload, 1) := by decide +kernel
theorem dX9_isBlockedAt_30 : decode cX9_isBlockedAt 30 = .ok (.imul, 1) := by decide +kernel
theorem dX9_isBlockedAt_31 : decode cX9_isBlockedAt 31 = .ok (.aload_n 0, 1) := by decide +kernel
theorem dX9_isBlockedAt_32 : decode cX9_isBlockedAt 32 = .ok (.getfield 65, 3) := by decide +kernel
theorem dX9_isBlockedAt_35 : decode cX9_isBlockedAt 35 = .ok (.iload_n 1, 1) := by decide +kernel
theorem dX9_isBlockedAt_36 : decode cX9_isBlockedAt 36 = .ok (.iaload, 1) := by decide +kernel
theorem dX9_isBlockedAt_37 : decode cX9_isBlockedAt 37 = .ok (.iadd, 1) := by decide +kernel
theorem dX9_isBlockedAt_38 : decode cX9_isBlockedAt 38 = .ok (.iload_n 3, 1) := by decide +kernel
theorem dX9_isBlockedAt_39 : decode cX9_isBlockedAt 39 = .ok (.iadd, 1) := by decide +kernel
theorem dX9_isBlockedAt_40 : decode cX9_isBlockedAt 40 = .ok (.baload, 1) := by decide +kernel
theorem dX9_isBlockedAt_41 : decode cX9_isBlockedAt 41 = .ok (.ifCond .eq 7, 3) := by decide +kernel
theorem dX9_isBlockedAt_44 : decode cX9_isBlockedAt 44 = .ok (.iconst 1, 1) := by decide +kernel
theorem dX9_isBlockedAt_45 : decode cX9_isBlockedAt 45 = .ok (.goto 4, 3) := by decide +kernel
theorem dX9_isBlockedAt_48 : decode cX9_isBlockedAt 48 = .ok (.iconst 0, 1) := by decide +kernel
theorem dX9_isBlockedAt_49 : decode cX9_isBlockedAt 49 = .ok (.istore_n 2, 1) := by decide +kernel
theorem dX9_isBlockedAt_50 : decode cX9_isBlockedAt 50 = .ok (.iinc 3 1, 3) := by decide +kernel
theorem dX9_isBlockedAt_53 : decode cX9_isBlockedAt 53 = .ok (.goto (-49), 3) := by decide +kernel
theorem dX9_isBlockedAt_56 : decode cX9_isBlockedAt 56 = .ok (.iload_n 2, 1) := by decide +kernel
theorem dX9_isBlockedAt_57 : decode cX9_isBlockedAt 57 = .ok (.ireturn, 1) := by decide +kernel
theorem dX9_isForbidden_0 : decode cX9_isForbidden 0 = .ok (.aload_n 0, 1) := by decide +kernel
theorem dX9_isForbidden_1 : decode cX9_isForbidden 1 = .ok (.iload_n 1, 1) := by decide +kernel
theorem dX9_isForbidden_2 : decode cX9_isForbidden 2 = .ok (.iload_n 2, 1) := by decide +kernel
theorem dX9_isForbidden_3 : decode cX9_isForbidden 3 = .ok (.iload 4, 2) := by decide +kernel
theorem dX9_isForbidden_5 : decode cX9_isForbidden 5 = .ok (.bipush 96, 2) := by decide +kernel
theorem dX9_isForbidden_7 : decode cX9_isForbidden 7 = .ok (.idiv, 1) := by decide +kernel
theorem dX9_isForbidden_8 : decode cX9_isForbidden 8 = .ok (.invokevirtual 225, 3) := by decide +kernel
theorem dX9_isForbidden_11 : decode cX9_isForbidden 11 = .ok (.istore 5, 2) := by decide +kernel
theorem dX9_isForbidden_13 : decode cX9_isForbidden 13 = .ok (.iconst 0, 1) := by decide +kernel
theorem dX9_isForbidden_14 : decode cX9_isForbidden 14 = .ok (.istore 6, 2) := by decide +kernel
theorem dX9_isForbidden_16 : decode cX9_isForbidden 16 = .ok (.iconst 0, 1) := by decide +kernel
theorem dX9_isForbidden_17 : decode cX9_isForbidden 17 = .ok (.istore 7, 2) := by decide +kernel
theorem dX9_isForbidden_19 : decode cX9_isForbidden 19 = .ok (.iload 7, 2) := by decide +kernel
theorem dX9_isForbidden_21 : decode cX9_isForbidden 21 = .ok (.aload_n 0, 1) := by decide +kernel
theorem dX9_isForbidden_22 : decode cX9_isForbidden 22 = .ok (.getfield 56, 3) := by decide +kernel
theorem dX9_isForbidden_25 : decode cX9_isForbidden 25 = .ok (.iload_n 1, 1) := by decide +kernel
theorem dX9_isForbidden_26 : decode cX9_isForbidden 26 = .ok (.iaload, 1) := by decide +kernel
theorem dX9_isForbidden_27 : decode cX9_isForbidden 27 = .ok (.if_icmp .ge 55, 3) := by decide +kernel
theorem dX9_isForbidden_30 : decode cX9_isForbidden 30 = .ok (.iload 6, 2) := by decide +kernel
theorem dX9_isForbidden_32 : decode cX9_isForbidden 32 = .ok (.ifCond .ne 50, 3) := by decide +kernel
theorem dX9_isForbidden_35 : decode cX9_isForbidden 35 = .ok (.aload_n 0, 1) := by decide +kernel
theorem dX9_isForbidden_36 : decode cX9_isForbidden 36 = .ok (.iload_n 2, 1) := by decide +kernel
theorem dX9_isForbidden_37 : decode cX9_isForbidden 37 = .ok (.iload_n 3, 1) := by decide +kernel
theorem dX9_isForbidden_38 : decode cX9_isForbidden 38 = .ok (.iload 7, 2) := by decide +kernel
theorem dX9_isForbidden_40 : decode cX9_isForbidden 40 = .ok (.iadd, 1) := by decide +kernel
theorem dX9_isForbidden_41 : decode cX9_isForbidden 41 = .ok (.iload 4, 2) := by decide +kernel
theorem dX9_isForbidden_43 : decode cX9_isForbidden 43 = .ok (.invokevirtual 205, 3) := by decide +kernel
theorem dX9_isForbidden_46 : decode cX9_isForbidden 46 = .ok (.istore 8, 2) := by decide +kernel
theorem dX9_isForbidden_48 : decode cX9_isForbidden 48 = .ok (.iload 8, 2) := by decide +kernel
theorem dX9_isForbidden_50 : decode cX9_isForbidden 50 = .ok (.iconst (-1), 1) := by decide +kernel
theorem dX9_isForbidden_51 : decode cX9_isForbidden 51 = .ok (.if_icmp .eq 22, 3) := by decide +kernel
theorem dX9_isForbidden_54 : decode cX9_isForbidden 54 = .ok (.aload_n 0, 1) := by decide +kernel
theorem dX9_isForbidden_55 : decode cX9_isForbidden 55 = .ok (.getfield 23, 3) := by decide +kernel
theorem dX9_isForbidden_58 : decode cX9_isForbidden 58 = .ok (.iload 8, 2) := by decide +kernel
theorem dX9_isForbidden_60 : decode cX9_isForbidden 60 = .ok (.iaload, 1) := by decide +kernel
theorem dX9_isForbidden_61 : decode cX9_isForbidden 61 = .ok (.iload 5, 2) := by decide +kernel
theorem dX9_isForbidden_63 : decode cX9_isForbidden 63 = .ok (.invokestatic 194, 3) := by decide +kernel
theorem dX9_isForbidden_66 : decode cX9_isForbidden 66 = .ok (.ifCond .ne 7, 3) := by decide +kernel
theorem dX9_isForbidden_69 : decode cX9_isForbidden 69 = .ok (.iconst 1, 1) := by decide +kernel
theorem dX9_isForbidden_70 : decode cX9_isForbidden 70 = .ok (.goto 4, 3) := by decide +kernel
theorem dX9_isForbidden_73 : decode cX9_isForbidden 73 = .ok (.iconst 0, 1) := by decide +kernel
theorem dX9_isForbidden_74 : decode cX9_isForbidden 74 = .ok (.istore 6, 2) := by decide +kernel
theorem dX9_isForbidden_76 : decode cX9_isForbidden 76 = .ok (.iinc 7 1, 3) := by decide +kernel
theorem dX9_isForbidden_79 : decode cX9_isForbidden 79 = .ok (.goto (-60), 3) := by decide +kernel
theorem dX9_isForbidden_82 : decode cX9_isForbidden 82 = .ok (.iload 6, 2) := by decide +kernel
theorem dX9_isForbidden_84 : decode cX9_isForbidden 84 = .ok (.ireturn, 1) := by decide +kernel
theorem dX9_judged_0 : decode cX9_judged 0 = .ok (.aload_n 0, 1) := by decide +kernel
theorem dX9_judged_1 : decode cX9_judged 1 = .ok (.iload_n 1, 1) := by decide +kernel
theorem dX9_judged_2 : decode cX9_judged 2 = .ok (.iload_n 2, 1) := by decide +kernel
theorem dX9_judged_3 : decode cX9_judged 3 = .ok (.iload_n 3, 1) := by decide +kernel
theorem dX9_judged_4 : decode cX9_judged 4 = .ok (.iload 5, 2) := by decide +kernel
theorem dX9_judged_6 : decode cX9_judged 6 = .ok (.invokevirtual 234, 3) := by decide +kernel
theorem dX9_judged_9 : decode cX9_judged 9 = .ok (.ifCond .eq 5, 3) := by decide +kernel
theorem dX9_judged_12 : decode cX9_judged 12 = .ok (.iconst 2, 1) := by decide +kernel
theorem dX9_judged_13 : decode cX9_judged 13 = .ok (.ireturn, 1) := by decide +kernel
theorem dX9_judged_14 : decode cX9_judged 14 = .ok (.aload_n 0, 1) := by decide +kernel
theorem dX9_judged_15 : decode cX9_judged 15 = .ok (.iload_n 2, 1) := by decide +kernel
theorem dX9_judged_16 : decode cX9_judged 16 = .ok (.iload_n 3, 1) := by decide +kernel
theorem dX9_judged_17 : decode cX9_judged 17 = .ok (.iload 5, 2) := by decide +kernel
theorem dX9_judged_19 : decode cX9_judged 19 = .ok (.invokevirtual 205, 3) := by decide +kernel
theorem dX9_judged_22 : decode cX9_judged 22 = .ok (.istore 6, 2) := by decide +kernel
theorem dX9_judged_24 : decode cX9_judged 24 = .ok (.iload 5, 2) := by decide +kernel
theorem dX9_judged_26 : decode cX9_judged 26 = .ok (.iload 4, 2) := by decide +kernel
theorem dX9_judged_28 : decode cX9_judged 28 = .ok (.isub, 1) := by decide +kernel
theorem dX9_judged_29 : decode cX9_judged 29 = .ok (.istore 7, 2) := by decide +kernel
theorem dX9_judged_31 : decode cX9_judged 31 = .ok (.iload 6, 2) := by decide +kernel
theorem dX9_judged_33 : decode cX9_judged 33 = .ok (.iconst (-1), 1) := by decide +kernel
theorem dX9_judged_34 : decode cX9_judged 34 = .ok (.if_icmp .eq 29, 3) := by decide +kernel
theorem dX9_judged_37 : decode cX9_judged 37 = .ok (.aload_n 0, 1) := by decide +kernel
theorem dX9_judged_38 : decode cX9_judged 38 = .ok (.getfield 26, 3) := by decide +kernel
theorem dX9_judged_41 : decode cX9_judged 41 = .ok (.iload 6, 2) := by decide +kernel
theorem dX9_judged_43 : decode cX9_judged 43 = .ok (.iaload, 1) := by decide +kernel
theorem dX9_judged_44 : decode cX9_judged 44 = .ok (.ifCond .le 19, 3) := by decide +kernel
theorem dX9_judged_47 : decode cX9_judged 47 = .ok (.iload 7, 2) := by decide +kernel
theorem dX9_judged_49 : decode cX9_judged 49 = .ok (.aload_n 0, 1) := by decide +kernel
theorem dX9_judged_50 : decode cX9_judged 50 = .ok (.getfield 26, 3) := by decide +kernel
theorem dX9_judged_53 : decode cX9_judged 53 = .ok (.iload 6, 2) := by decide +kernel
theorem dX9_judged_55 : decode cX9_judged 55 = .ok (.iaload, 1) := by decide +kernel
theorem dX9_judged_56 : decode cX9_judged 56 = .ok (.iconst 1, 1) := by decide +kernel
theorem dX9_judged_57 : decode cX9_judged 57 = .ok (.iadd, 1) := by decide +kernel
theorem dX9_judged_58 : decode cX9_judged 58 = .ok (.if_icmp .le 5, 3) := by decide +kernel
theorem dX9_judged_61 : decode cX9_judged 61 = .ok (.iconst 3, 1) := by decide +kernel
theorem dX9_judged_62 : decode cX9_judged 62 = .ok (.ireturn, 1) := by decide +kernel
theorem dX9_judged_63 : decode cX9_judged 63 = .ok (.iload 6, 2) := by decide +kernel
theorem dX9_judged_65 : decode cX9_judged 65 = .ok (.iconst (-1), 1) := by decide +kernel
theorem dX9_judged_66 : decode cX9_judged 66 = .ok (.if_icmp .eq 34, 3) := by decide +kernel
theorem dX9_judged_69 : decode cX9_judged 69 = .ok (.aload_n 0, 1) := by decide +kernel
theorem dX9_judged_70 : decode cX9_judged 70 = .ok (.getfield 29, 3) := by decide +kernel
theorem dX9_judged_73 : decode cX9_judged 73 = .ok (.iload 6, 2) := by decide +kernel
theorem dX9_judged_75 : decode cX9_judged 75 = .ok (.baload, 1) := by decide +kernel
theorem dX9_judged_76 : decode cX9_judged 76 = .ok (.ifCond .eq 24, 3) := by decide +kernel
theorem dX9_judged_79 : decode cX9_judged 79 = .ok (.iload 7, 2) := by decide +kernel
theorem dX9_judged_81 : decode cX9_judged 81 = .ok (.iconst 1, 1) := by decide +kernel
theorem dX9_judged_82 : decode cX9_judged 82 = .ok (.if_icmp .le 18, 3) := by decide +kernel
theorem dX9_judged_85 : decode cX9_judged 85 = .ok (.aload_n 0, 1) := by decide +kernel
theorem dX9_judged_86 : decode cX9_judged 86 = .ok (.iload_n 1, 1) := by decide +kernel
theorem dX9_judged_87 : decode cX9_judged 87 = .ok (.iload_n 2, 1) := by decide +kernel
theorem dX9_judged_88 : decode cX9_judged 88 = .ok (.iload 5, 2) := by decide +kernel
theorem dX9_judged_90 : decode cX9_judged 90 = .ok (.invokevirtual 237, 3) := by decide +kernel
theorem dX9_judged_93 : decode cX9_judged 93 = .ok (.ifCond .ne 7, 3) := by decide +kernel
theorem dX9_judged_96 : decode cX9_judged 96 = .ok (.iconst 4, 1) := by decide +kernel
theorem dX9_judged_97 : decode cX9_judged 97 = .ok (.goto 4, 3) := by decide +kernel
theorem dX9_judged_100 : decode cX9_judged 100 = .ok (.iconst 0, 1) := by decide +kernel
theorem dX9_judged_101 : decode cX9_judged 101 = .ok (.ireturn, 1) := by decide +kernel
theorem dX9_judgedNow_0 : decode cX9_judgedNow 0 = .ok (.aload_n 0, 1) := by decide +kernel
theorem dX9_judgedNow_1 : decode cX9_judgedNow 1 = .ok (.iload_n 1, 1) := by decide +kernel
theorem dX9_judgedNow_2 : decode cX9_judgedNow 2 = .ok (.invokevirtual 240, 3) := by decide +kernel
theorem dX9_judgedNow_5 : decode cX9_judgedNow 5 = .ok (.ifCond .eq 7, 3) := by decide +kernel
theorem dX9_judgedNow_8 : decode cX9_judgedNow 8 = .ok (.iconst 1, 1) := by decide +kernel
theorem dX9_judgedNow_9 : decode cX9_judgedNow 9 = .ok (.goto 30, 3) := by decide +kernel
theorem dX9_judgedNow_12 : decode cX9_judgedNow 12 = .ok (.aload_n 0, 1) := by decide +kernel
theorem dX9_judgedNow_13 : decode cX9_judgedNow 13 = .ok (.iload_n 1, 1) := by decide +kernel
theorem dX9_judgedNow_14 : decode cX9_judgedNow 14 = .ok (.aload_n 0, 1) := by decide +kernel
theorem dX9_judgedNow_15 : decode cX9_judgedNow 15 = .ok (.getfield 62, 3) := by decide +kernel
theorem dX9_judgedNow_18 : decode cX9_judgedNow 18 = .ok (.iload_n 1, 1) := by decide +kernel
theorem dX9_judgedNow_19 : decode cX9_judgedNow 19 = .ok (.iaload, 1) := by decide +kernel
theorem dX9_judgedNow_20 : decode cX9_judgedNow 20 = .ok (.aload_n 0, 1) := by decide +kernel
theorem dX9_judgedNow_21 : decode cX9_judgedNow 21 = .ok (.getfield 65, 3) := by decide +kernel
theorem dX9_judgedNow_24 : decode cX9_judgedNow 24 = .ok (.iload_n 1, 1) := by decide +kernel
theorem dX9_judgedNow_25 : decode cX9_judgedNow 25 = .ok (.iaload, 1) := by decide +kernel
theorem dX9_judgedNow_26 : decode cX9_judgedNow 26 = .ok (.aload_n 0, 1) := by decide +kernel
theorem dX9_judgedNow_27 : decode cX9_judgedNow 27 = .ok (.getfield 68, 3) := by decide +kernel
theorem dX9_judgedNow_30 : decode cX9_judgedNow 30 = .ok (.iload_n 1, 1) := by decide +kernel
theorem dX9_judgedNow_31 : decode cX9_judgedNow 31 = .ok (.iaload, 1) := by decide +kernel
theorem dX9_judgedNow_32 : decode cX9_judgedNow 32 = .ok (.aload_n 0, 1) := by decide +kernel
theorem dX9_judgedNow_33 : decode cX9_judgedNow 33 = .ok (.getfield 189, 3) := by decide +kernel
theorem dX9_judgedNow_36 : decode cX9_judgedNow 36 = .ok (.invokevirtual 243, 3) := by decide +kernel
theorem dX9_judgedNow_39 : decode cX9_judgedNow 39 = .ok (.ireturn, 1) := by decide +kernel
theorem dX9_judge_0 : decode cX9_judge 0 = .ok (.aload_n 0, 1) := by decide +kernel
theorem dX9_judge_1 : decode cX9_judge 1 = .ok (.aload_n 0, 1) := by decide +kernel
theorem dX9_judge_2 : decode cX9_judge 2 = .ok (.iload_n 1, 1) := by decide +kernel
theorem dX9_judge_3 : decode cX9_judge 3 = .ok (.invokevirtual 219, 3) := by decide +kernel
theorem dX9_judge_6 : decode cX9_judge 6 = .ok (.iconst 1, 1) := by decide +kernel
theorem dX9_judge_7 : decode cX9_judge 7 = .ok (.iconst 1, 1) := by decide +kernel
theorem dX9_judge_8 : decode cX9_judge 8 = .ok (.invokevirtual 167, 3) := by decide +kernel
theorem dX9_judge_11 : decode cX9_judge 11 = .ok (.ifCond .ne 5, 3) := by decide +kernel
theorem dX9_judge_14 : decode cX9_judge 14 = .ok (.iconst 0, 1) := by decide +kernel
theorem dX9_judge_15 : decode cX9_judge 15 = .ok (.ireturn, 1) := by decide +kernel
theorem dX9_judge_16 : decode cX9_judge 16 = .ok (.aload_n 0, 1) := by decide +kernel
theorem dX9_judge_17 : decode cX9_judge 17 = .ok (.getfield 62, 3) := by decide +kernel
theorem dX9_judge_20 : decode cX9_judge 20 = .ok (.iload_n 1, 1) := by decide +kernel
theorem dX9_judge_21 : decode cX9_judge 21 = .ok (.iaload, 1) := by decide +kernel
theorem dX9_judge_22 : decode cX9_judge 22 = .ok (.iconst (-1), 1) := by decide +kernel
theorem dX9_judge_23 : decode cX9_judge 23 = .ok (.if_icmp .ne 7, 3) := by decide +kernel
theorem dX9_judge_26 : decode cX9_judge 26 = .ok (.iconst (-1), 1) := by decide +kernel
theorem dX9_judge_27 : decode cX9_judge 27 = .ok (.goto 8, 3) := by decide +kernel
theorem dX9_judge_30 : decode cX9_judge 30 = .ok (.aload_n 0, 1) := by decide +kernel
theorem dX9_judge_31 : decode cX9_judge 31 = .ok (.iload_n 1, 1) := by decide +kernel
theorem dX9_judge_32 : decode cX9_judge 32 = .ok (.invokevirtual 247, 3) := by decide +kernel
theorem dX9_judge_35 : decode cX9_judge 35 = .ok (.ireturn, 1) := by decide +kernel
theorem dX9_hasFine_0 : decode cX9_hasFine 0 = .ok (.iconst 0, 1) := by decide +kernel
theorem dX9_hasFine_1 : decode cX9_hasFine 1 = .ok (.istore_n 2, 1) := by decide +kernel
theorem dX9_hasFine_2 : decode cX9_hasFine 2 = .ok (.iconst 0, 1) := by decide +kernel
theorem dX9_hasFine_3 : decode cX9_hasFine 3 = .ok (.istore_n 3, 1) := by decide +kernel
theorem dX9_hasFine_4 : decode cX9_hasFine 4 = .ok (.iload_n 3, 1) := by decide +kernel
theorem dX9_hasFine_5 : decode cX9_hasFine 5 = .ok (.aload_n 0, 1) := by decide +kernel
theorem dX9_hasFine_6 : decode cX9_hasFine 6 = .ok (.getfield 251, 3) := by decide +kernel
theorem dX9_hasFine_9 : decode cX9_hasFine 9 = .ok (.if_icmp .ge 63, 3) := by decide +kernel
theorem dX9_hasFine_12 : decode cX9_hasFine 12 = .ok (.iload_n 2, 1) := by decide +kernel
theorem dX9_hasFine_13 : decode cX9_hasFine 13 = .ok (.ifCond .ne 47, 3) := by decide +kernel
theorem dX9_hasFine_16 : decode cX9_hasFine 16 = .ok (.aload_n 0, 1) := by decide +kernel
theorem dX9_hasFine_17 : decode cX9_hasFine 17 = .ok (.getfield 101, 3) := by decide +kernel
theorem dX9_hasFine_20 : decode cX9_hasFine 20 = .ok (.iload_n 3, 1) := by decide +kernel
theorem dX9_hasFine_21 : decode cX9_hasFine 21 = .ok (.iaload, 1) := by decide +kernel
theorem dX9_hasFine_22 : decode cX9_hasFine 22 = .ok (.iload_n 1, 1) := by decide +kernel
theorem dX9_hasFine_23 : decode cX9_hasFine 23 = .ok (.if_icmp .ne 41, 3) := by decide +kernel
theorem dX9_hasFine_26 : decode cX9_hasFine 26 = .ok (.aload_n 0, 1) := by decide +kernel
theorem dX9_hasFine_27 : decode cX9_hasFine 27 = .ok (.getfield 113, 3) := by decide +kernel
end
section
theorem dX9_hasFine_30 : decode cX9_hasFine 30 = .ok (.iload_n 3, 1) := by decide +kernel
theorem dX9_hasFine_31 : decode cX9_hasFine 31 = .ok (.iaload, 1) := by decide +kernel
theorem dX9_hasFine_32 : decode cX9_hasFine 32 = .ok (.aload_n 0, 1) := by decide +kernel
theorem dX9_hasFine_33 : decode cX9_hasFine 33 = .ok (.getfield 71, 3) := by decide +kernel
theorem dX9_hasFine_36 : decode cX9_hasFine 36 = .ok (.iload_n 1, 1) := by decide +kernel
theorem dX9_hasFine_37 : decode cX9_hasFine 37 = .ok (.iaload, 1) := by decide +kernel
theorem dX9_hasFine_38 : decode cX9_hasFine 38 = .ok (.if_icmp .ne 26, 3) := by decide +kernel
theorem dX9_hasFine_41 : decode cX9_hasFine 41 = .ok (.aload_n 0, 1) := by decide +kernel
theorem dX9_hasFine_42 : decode cX9_hasFine 42 = .ok (.getfield 116, 3) := by decide +kernel
theorem dX9_hasFine_45 : decode cX9_hasFine 45 = .ok (.iload_n 3, 1) := by decide +kernel
theorem dX9_hasFine_46 : decode cX9_hasFine 46 = .ok (.iaload, 1) := by decide +kernel
theorem dX9_hasFine_47 : decode cX9_hasFine 47 = .ok (.bipush 96, 2) := by decide +kernel
theorem dX9_hasFine_49 : decode cX9_hasFine 49 = .ok (.idiv, 1) := by decide +kernel
theorem dX9_hasFine_50 : decode cX9_hasFine 50 = .ok (.aload_n 0, 1) := by decide +kernel
theorem dX9_hasFine_51 : decode cX9_hasFine 51 = .ok (.getfield 189, 3) := by decide +kernel
theorem dX9_hasFine_54 : decode cX9_hasFine 54 = .ok (.bipush 96, 2) := by decide +kernel
theorem dX9_hasFine_56 : decode cX9_hasFine 56 = .ok (.idiv, 1) := by decide +kernel
theorem dX9_hasFine_57 : decode cX9_hasFine 57 = .ok (.if_icmp .ne 7, 3) := by decide +kernel
theorem dX9_hasFine_60 : decode cX9_hasFine 60 = .ok (.iconst 1, 1) := by decide +kernel
theorem dX9_hasFine_61 : decode cX9_hasFine 61 = .ok (.goto 4, 3) := by decide +kernel
theorem dX9_hasFine_64 : decode cX9_hasFine 64 = .ok (.iconst 0, 1) := by decide +kernel
theorem dX9_hasFine_65 : decode cX9_hasFine 65 = .ok (.istore_n 2, 1) := by decide +kernel
theorem dX9_hasFine_66 : decode cX9_hasFine 66 = .ok (.iinc 3 1, 3) := by decide +kernel
theorem dX9_hasFine_69 : decode cX9_hasFine 69 = .ok (.goto (-65), 3) := by decide +kernel
theorem dX9_hasFine_72 : decode cX9_hasFine 72 = .ok (.iload_n 2, 1) := by decide +kernel
theorem dX9_hasFine_73 : decode cX9_hasFine 73 = .ok (.ireturn, 1) := by decide +kernel
theorem dX9_gives_0 : decode cX9_gives 0 = .ok (.aload_n 0, 1) := by decide +kernel
theorem dX9_gives_1 : decode cX9_gives 1 = .ok (.getfield 101, 3) := by decide +kernel
theorem dX9_gives_4 : decode cX9_gives 4 = .ok (.aload_n 0, 1) := by decide +kernel
theorem dX9_gives_5 : decode cX9_gives 5 = .ok (.getfield 251, 3) := by decide +kernel
theorem dX9_gives_8 : decode cX9_gives 8 = .ok (.iload_n 1, 1) := by decide +kernel
theorem dX9_gives_9 : decode cX9_gives 9 = .ok (.iastore, 1) := by decide +kernel
theorem dX9_gives_10 : decode cX9_gives 10 = .ok (.aload_n 0, 1) := by decide +kernel
theorem dX9_gives_11 : decode cX9_gives 11 = .ok (.getfield 104, 3) := by decide +kernel
theorem dX9_gives_14 : decode cX9_gives 14 = .ok (.aload_n 0, 1) := by decide +kernel
theorem dX9_gives_15 : decode cX9_gives 15 = .ok (.getfield 251, 3) := by decide +kernel
theorem dX9_gives_18 : decode cX9_gives 18 = .ok (.aload_n 0, 1) := by decide +kernel
theorem dX9_gives_19 : decode cX9_gives 19 = .ok (.getfield 62, 3) := by decide +kernel
theorem dX9_gives_22 : decode cX9_gives 22 = .ok (.iload_n 1, 1) := by decide +kernel
theorem dX9_gives_23 : decode cX9_gives 23 = .ok (.iaload, 1) := by decide +kernel
theorem dX9_gives_24 : decode cX9_gives 24 = .ok (.iastore, 1) := by decide +kernel
theorem dX9_gives_25 : decode cX9_gives 25 = .ok (.aload_n 0, 1) := by decide +kernel
theorem dX9_gives_26 : decode cX9_gives 26 = .ok (.getfield 107, 3) := by decide +kernel
theorem dX9_gives_29 : decode cX9_gives 29 = .ok (.aload_n 0, 1) := by decide +kernel
theorem dX9_gives_30 : decode cX9_gives 30 = .ok (.getfield 251, 3) := by decide +kernel
theorem dX9_gives_33 : decode cX9_gives 33 = .ok (.aload_n 0, 1) := by decide +kernel
theorem dX9_gives_34 : decode cX9_gives 34 = .ok (.getfield 65, 3) := by decide +kernel
theorem dX9_gives_37 : decode cX9_gives 37 = .ok (.iload_n 1, 1) := by decide +kernel
theorem dX9_gives_38 : decode cX9_gives 38 = .ok (.iaload, 1) := by decide +kernel
theorem dX9_gives_39 : decode cX9_gives 39 = .ok (.iastore, 1) := by decide +kernel
theorem dX9_gives_40 : decode cX9_gives 40 = .ok (.aload_n 0, 1) := by decide +kernel
theorem dX9_gives_41 : decode cX9_gives 41 = .ok (.getfield 110, 3) := by decide +kernel
theorem dX9_gives_44 : decode cX9_gives 44 = .ok (.aload_n 0, 1) := by decide +kernel
theorem dX9_gives_45 : decode cX9_gives 45 = .ok (.getfield 251, 3) := by decide +kernel
theorem dX9_gives_48 : decode cX9_gives 48 = .ok (.aload_n 0, 1) := by decide +kernel
theorem dX9_gives_49 : decode cX9_gives 49 = .ok (.getfield 68, 3) := by decide +kernel
theorem dX9_gives_52 : decode cX9_gives 52 = .ok (.iload_n 1, 1) := by decide +kernel
theorem dX9_gives_53 : decode cX9_gives 53 = .ok (.iaload, 1) := by decide +kernel
theorem dX9_gives_54 : decode cX9_gives 54 = .ok (.iastore, 1) := by decide +kernel
theorem dX9_gives_55 : decode cX9_gives 55 = .ok (.aload_n 0, 1) := by decide +kernel
theorem dX9_gives_56 : decode cX9_gives 56 = .ok (.getfield 113, 3) := by decide +kernel
theorem dX9_gives_59 : decode cX9_gives 59 = .ok (.aload_n 0, 1) := by decide +kernel
theorem dX9_gives_60 : decode cX9_gives 60 = .ok (.getfield 251, 3) := by decide +kernel
theorem dX9_gives_63 : decode cX9_gives 63 = .ok (.aload_n 0, 1) := by decide +kernel
theorem dX9_gives_64 : decode cX9_gives 64 = .ok (.getfield 71, 3) := by decide +kernel
theorem dX9_gives_67 : decode cX9_gives 67 = .ok (.iload_n 1, 1) := by decide +kernel
theorem dX9_gives_68 : decode cX9_gives 68 = .ok (.iaload, 1) := by decide +kernel
theorem dX9_gives_69 : decode cX9_gives 69 = .ok (.iastore, 1) := by decide +kernel
theorem dX9_gives_70 : decode cX9_gives 70 = .ok (.aload_n 0, 1) := by decide +kernel
theorem dX9_gives_71 : decode cX9_gives 71 = .ok (.getfield 116, 3) := by decide +kernel
theorem dX9_gives_74 : decode cX9_gives 74 = .ok (.aload_n 0, 1) := by decide +kernel
theorem dX9_gives_75 : decode cX9_gives 75 = .ok (.getfield 251, 3) := by decide +kernel
theorem dX9_gives_78 : decode cX9_gives 78 = .ok (.aload_n 0, 1) := by decide +kernel
theorem dX9_gives_79 : decode cX9_gives 79 = .ok (.getfield 189, 3) := by decide +kernel
theorem dX9_gives_82 : decode cX9_gives 82 = .ok (.iastore, 1) := by decide +kernel
theorem dX9_gives_83 : decode cX9_gives 83 = .ok (.aload_n 0, 1) := by decide +kernel
theorem dX9_gives_84 : decode cX9_gives 84 = .ok (.getfield 119, 3) := by decide +kernel
theorem dX9_gives_87 : decode cX9_gives 87 = .ok (.aload_n 0, 1) := by decide +kernel
theorem dX9_gives_88 : decode cX9_gives 88 = .ok (.getfield 251, 3) := by decide +kernel
theorem dX9_gives_91 : decode cX9_gives 91 = .ok (.iload_n 2, 1) := by decide +kernel
theorem dX9_gives_92 : decode cX9_gives 92 = .ok (.iastore, 1) := by decide +kernel
theorem dX9_gives_93 : decode cX9_gives 93 = .ok (.aload_n 0, 1) := by decide +kernel
theorem dX9_gives_94 : decode cX9_gives 94 = .ok (.getfield 122, 3) := by decide +kernel
theorem dX9_gives_97 : decode cX9_gives 97 = .ok (.aload_n 0, 1) := by decide +kernel
theorem dX9_gives_98 : decode cX9_gives 98 = .ok (.getfield 251, 3) := by decide +kernel
theorem dX9_gives_101 : decode cX9_gives 101 = .ok (.iload_n 2, 1) := by decide +kernel
theorem dX9_gives_102 : decode cX9_gives 102 = .ok (.iconst 1, 1) := by decide +kernel
theorem dX9_gives_103 : decode cX9_gives 103 = .ok (.if_icmp .ne 7, 3) := by decide +kernel
theorem dX9_gives_106 : decode cX9_gives 106 = .ok (.iconst 1, 1) := by decide +kernel
theorem dX9_gives_107 : decode cX9_gives 107 = .ok (.goto 4, 3) := by decide +kernel
theorem dX9_gives_110 : decode cX9_gives 110 = .ok (.iconst 0, 1) := by decide +kernel
theorem dX9_gives_111 : decode cX9_gives 111 = .ok (.bastore, 1) := by decide +kernel
theorem dX9_gives_112 : decode cX9_gives 112 = .ok (.aload_n 0, 1) := by decide +kernel
theorem dX9_gives_113 : decode cX9_gives 113 = .ok (.getfield 140, 3) := by decide +kernel
theorem dX9_gives_116 : decode cX9_gives 116 = .ok (.aload_n 0, 1) := by decide +kernel
theorem dX9_gives_117 : decode cX9_gives 117 = .ok (.getfield 62, 3) := by decide +kernel
theorem dX9_gives_120 : decode cX9_gives 120 = .ok (.iload_n 1, 1) := by decide +kernel
theorem dX9_gives_121 : decode cX9_gives 121 = .ok (.iaload, 1) := by decide +kernel
theorem dX9_gives_122 : decode cX9_gives 122 = .ok (.dup2, 1) := by decide +kernel
theorem dX9_gives_123 : decode cX9_gives 123 = .ok (.iaload, 1) := by decide +kernel
theorem dX9_gives_124 : decode cX9_gives 124 = .ok (.iconst 1, 1) := by decide +kernel
theorem dX9_gives_125 : decode cX9_gives 125 = .ok (.iadd, 1) := by decide +kernel
theorem dX9_gives_126 : decode cX9_gives 126 = .ok (.iastore, 1) := by decide +kernel
theorem dX9_gives_127 : decode cX9_gives 127 = .ok (.aload_n 0, 1) := by decide +kernel
theorem dX9_gives_128 : decode cX9_gives 128 = .ok (.dup, 1) := by decide +kernel
theorem dX9_gives_129 : decode cX9_gives 129 = .ok (.getfield 251, 3) := by decide +kernel
theorem dX9_gives_132 : decode cX9_gives 132 = .ok (.iconst 1, 1) := by decide +kernel
theorem dX9_gives_133 : decode cX9_gives 133 = .ok (.iadd, 1) := by decide +kernel
theorem dX9_gives_134 : decode cX9_gives 134 = .ok (.putfield 251, 3) := by decide +kernel
theorem dX9_gives_137 : decode cX9_gives 137 = .ok (.return_, 1) := by decide +kernel
theorem dX9_look_0 : decode cX9_look 0 = .ok (.aload_n 0, 1) := by decide +kernel
theorem dX9_look_1 : decode cX9_look 1 = .ok (.iload_n 1, 1) := by decide +kernel
theorem dX9_look_2 : decode cX9_look 2 = .ok (.invokestatic 160, 3) := by decide +kernel
theorem dX9_look_5 : decode cX9_look 5 = .ok (.iconst 1, 1) := by decide +kernel
theorem dX9_look_6 : decode cX9_look 6 = .ok (.iconst 1, 1) := by decide +kernel
theorem dX9_look_7 : decode cX9_look 7 = .ok (.invokevirtual 167, 3) := by decide +kernel
theorem dX9_look_10 : decode cX9_look 10 = .ok (.ifCond .ne 5, 3) := by decide +kernel
theorem dX9_look_13 : decode cX9_look 13 = .ok (.iconst 0, 1) := by decide +kernel
theorem dX9_look_14 : decode cX9_look 14 = .ok (.ireturn, 1) := by decide +kernel
theorem dX9_look_15 : decode cX9_look 15 = .ok (.aload_n 0, 1) := by decide +kernel
theorem dX9_look_16 : decode cX9_look 16 = .ok (.getfield 251, 3) := by decide +kernel
theorem dX9_look_19 : decode cX9_look 19 = .ok (.istore_n 2, 1) := by decide +kernel
theorem dX9_look_20 : decode cX9_look 20 = .ok (.iconst 0, 1) := by decide +kernel
theorem dX9_look_21 : decode cX9_look 21 = .ok (.istore_n 3, 1) := by decide +kernel
theorem dX9_look_22 : decode cX9_look 22 = .ok (.iload_n 3, 1) := by decide +kernel
theorem dX9_look_23 : decode cX9_look 23 = .ok (.aload_n 0, 1) := by decide +kernel
theorem dX9_look_24 : decode cX9_look 24 = .ok (.getfield 157, 3) := by decide +kernel
theorem dX9_look_27 : decode cX9_look 27 = .ok (.if_icmp .ge 55, 3) := by decide +kernel
theorem dX9_look_30 : decode cX9_look 30 = .ok (.aload_n 0, 1) := by decide +kernel
theorem dX9_look_31 : decode cX9_look 31 = .ok (.getfield 62, 3) := by decide +kernel
theorem dX9_look_34 : decode cX9_look 34 = .ok (.iload_n 3, 1) := by decide +kernel
theorem dX9_look_35 : decode cX9_look 35 = .ok (.iaload, 1) := by decide +kernel
theorem dX9_look_36 : decode cX9_look 36 = .ok (.iload_n 1, 1) := by decide +kernel
theorem dX9_look_37 : decode cX9_look 37 = .ok (.if_icmp .ne 39, 3) := by decide +kernel
theorem dX9_look_40 : decode cX9_look 40 = .ok (.aload_n 0, 1) := by decide +kernel
theorem dX9_look_41 : decode cX9_look 41 = .ok (.getfield 251, 3) := by decide +kernel
theorem dX9_look_44 : decode cX9_look 44 = .ok (.bipush 60, 2) := by decide +kernel
theorem dX9_look_46 : decode cX9_look 46 = .ok (.if_icmp .ge 30, 3) := by decide +kernel
theorem dX9_look_49 : decode cX9_look 49 = .ok (.aload_n 0, 1) := by decide +kernel
theorem dX9_look_50 : decode cX9_look 50 = .ok (.iload_n 3, 1) := by decide +kernel
theorem dX9_look_51 : decode cX9_look 51 = .ok (.invokevirtual 254, 3) := by decide +kernel
theorem dX9_look_54 : decode cX9_look 54 = .ok (.ifCond .ne 22, 3) := by decide +kernel
theorem dX9_look_57 : decode cX9_look 57 = .ok (.aload_n 0, 1) := by decide +kernel
theorem dX9_look_58 : decode cX9_look 58 = .ok (.iload_n 3, 1) := by decide +kernel
theorem dX9_look_59 : decode cX9_look 59 = .ok (.invokevirtual 247, 3) := by decide +kernel
theorem dX9_look_62 : decode cX9_look 62 = .ok (.istore 4, 2) := by decide +kernel
theorem dX9_look_64 : decode cX9_look 64 = .ok (.iload 4, 2) := by decide +kernel
theorem dX9_look_66 : decode cX9_look 66 = .ok (.ifCond .eq 10, 3) := by decide +kernel
theorem dX9_look_69 : decode cX9_look 69 = .ok (.aload_n 0, 1) := by decide +kernel
theorem dX9_look_70 : decode cX9_look 70 = .ok (.iload_n 3, 1) := by decide +kernel
theorem dX9_look_71 : decode cX9_look 71 = .ok (.iload 4, 2) := by decide +kernel
theorem dX9_look_73 : decode cX9_look 73 = .ok (.invokevirtual 257, 3) := by decide +kernel
theorem dX9_look_76 : decode cX9_look 76 = .ok (.iinc 3 1, 3) := by decide +kernel
theorem dX9_look_79 : decode cX9_look 79 = .ok (.goto (-57), 3) := by decide +kernel
theorem dX9_look_82 : decode cX9_look 82 = .ok (.aload_n 0, 1) := by decide +kernel
theorem dX9_look_83 : decode cX9_look 83 = .ok (.getfield 251, 3) := by decide +kernel
theorem dX9_look_86 : decode cX9_look 86 = .ok (.iload_n 2, 1) := by decide +kernel
theorem dX9_look_87 : decode cX9_look 87 = .ok (.isub, 1) := by decide +kernel
theorem dX9_look_88 : decode cX9_look 88 = .ok (.ireturn, 1) := by decide +kernel
theorem dX9_isFine_0 : decode cX9_isFine 0 = .ok (.iload_n 1, 1) := by decide +kernel
theorem dX9_isFine_1 : decode cX9_isFine 1 = .ok (.iconst 0, 1) := by decide +kernel
theorem dX9_isFine_2 : decode cX9_isFine 2 = .ok (.aload_n 0, 1) := by decide +kernel
theorem dX9_isFine_3 : decode cX9_isFine 3 = .ok (.getfield 251, 3) := by decide +kernel
theorem dX9_isFine_6 : decode cX9_isFine 6 = .ok (.iconst 1, 1) := by decide +kernel
theorem dX9_isFine_7 : decode cX9_isFine 7 = .ok (.isub, 1) := by decide +kernel
theorem dX9_isFine_8 : decode cX9_isFine 8 = .ok (.invokestatic 153, 3) := by decide +kernel
theorem dX9_isFine_11 : decode cX9_isFine 11 = .ok (.ireturn, 1) := by decide +kernel
theorem dX9_appeal_0 : decode cX9_appeal 0 = .ok (.aload_n 0, 1) := by decide +kernel
theorem dX9_appeal_1 : decode cX9_appeal 1 = .ok (.iload_n 1, 1) := by decide +kernel
theorem dX9_appeal_2 : decode cX9_appeal 2 = .ok (.invokevirtual 261, 3) := by decide +kernel
theorem dX9_appeal_5 : decode cX9_appeal 5 = .ok (.istore_n 2, 1) := by decide +kernel
theorem dX9_appeal_6 : decode cX9_appeal 6 = .ok (.aload_n 0, 1) := by decide +kernel
theorem dX9_appeal_7 : decode cX9_appeal 7 = .ok (.iload_n 2, 1) := by decide +kernel
theorem dX9_appeal_8 : decode cX9_appeal 8 = .ok (.iload_n 2, 1) := by decide +kernel
theorem dX9_appeal_9 : decode cX9_appeal 9 = .ok (.ifCond .eq 41, 3) := by decide +kernel
theorem dX9_appeal_12 : decode cX9_appeal 12 = .ok (.aload_n 0, 1) := by decide +kernel
theorem dX9_appeal_13 : decode cX9_appeal 13 = .ok (.getfield 125, 3) := by decide +kernel
theorem dX9_appeal_16 : decode cX9_appeal 16 = .ok (.iload_n 2, 1) := by decide +kernel
theorem dX9_appeal_17 : decode cX9_appeal 17 = .ok (.ifCond .eq 7, 3) := by decide +kernel
theorem dX9_appeal_20 : decode cX9_appeal 20 = .ok (.iload_n 1, 1) := by decide +kernel
theorem dX9_appeal_21 : decode cX9_appeal 21 = .ok (.goto 4, 3) := by decide +kernel
theorem dX9_appeal_24 : decode cX9_appeal 24 = .ok (.iconst 0, 1) := by decide +kernel
theorem dX9_appeal_25 : decode cX9_appeal 25 = .ok (.baload, 1) := by decide +kernel
theorem dX9_appeal_26 : decode cX9_appeal 26 = .ok (.ifCond .ne 24, 3) := by decide +kernel
theorem dX9_appeal_29 : decode cX9_appeal 29 = .ok (.aload_n 0, 1) := by decide +kernel
theorem dX9_appeal_30 : decode cX9_appeal 30 = .ok (.getfield 131, 3) := by decide +kernel
theorem dX9_appeal_33 : decode cX9_appeal 33 = .ok (.iload_n 2, 1) := by decide +kernel
theorem dX9_appeal_34 : decode cX9_appeal 34 = .ok (.ifCond .eq 7, 3) := by decide +kernel
theorem dX9_appeal_37 : decode cX9_appeal 37 = .ok (.iload_n 1, 1) := by decide +kernel
theorem dX9_appeal_38 : decode cX9_appeal 38 = .ok (.goto 4, 3) := by decide +kernel
theorem dX9_appeal_41 : decode cX9_appeal 41 = .ok (.iconst 0, 1) := by decide +kernel
theorem dX9_appeal_42 : decode cX9_appeal 42 = .ok (.baload, 1) := by decide +kernel
theorem dX9_appeal_43 : decode cX9_appeal 43 = .ok (.ifCond .ne 7, 3) := by decide +kernel
theorem dX9_appeal_46 : decode cX9_appeal 46 = .ok (.iconst 1, 1) := by decide +kernel
theorem dX9_appeal_47 : decode cX9_appeal 47 = .ok (.goto 4, 3) := by decide +kernel
theorem dX9_appeal_50 : decode cX9_appeal 50 = .ok (.iconst 0, 1) := by decide +kernel
theorem dX9_appeal_51 : decode cX9_appeal 51 = .ok (.iconst 1, 1) := by decide +kernel
theorem dX9_appeal_52 : decode cX9_appeal 52 = .ok (.invokevirtual 167, 3) := by decide +kernel
theorem dX9_appeal_55 : decode cX9_appeal 55 = .ok (.ifCond .ne 5, 3) := by decide +kernel
theorem dX9_appeal_58 : decode cX9_appeal 58 = .ok (.iconst 0, 1) := by decide +kernel
theorem dX9_appeal_59 : decode cX9_appeal 59 = .ok (.ireturn, 1) := by decide +kernel
theorem dX9_appeal_60 : decode cX9_appeal 60 = .ok (.aload_n 0, 1) := by decide +kernel
theorem dX9_appeal_61 : decode cX9_appeal 61 = .ok (.getfield 125, 3) := by decide +kernel
theorem dX9_appeal_64 : decode cX9_appeal 64 = .ok (.iload_n 1, 1) := by decide +kernel
theorem dX9_appeal_65 : decode cX9_appeal 65 = .ok (.iconst 1, 1) := by decide +kernel
theorem dX9_appeal_66 : decode cX9_appeal 66 = .ok (.bastore, 1) := by decide +kernel
theorem dX9_appeal_67 : decode cX9_appeal 67 = .ok (.aload_n 0, 1) := by decide +kernel
theorem dX9_appeal_68 : decode cX9_appeal 68 = .ok (.getfield 128, 3) := by decide +kernel
theorem dX9_appeal_71 : decode cX9_appeal 71 = .ok (.iload_n 1, 1) := by decide +kernel
theorem dX9_appeal_72 : decode cX9_appeal 72 = .ok (.aload_n 0, 1) := by decide +kernel
theorem dX9_appeal_73 : decode cX9_appeal 73 = .ok (.getfield 122, 3) := by decide +kernel
theorem dX9_appeal_76 : decode cX9_appeal 76 = .ok (.iload_n 1, 1) := by decide +kernel
theorem dX9_appeal_77 : decode cX9_appeal 77 = .ok (.baload, 1) := by decide +kernel
theorem dX9_appeal_78 : decode cX9_appeal 78 = .ok (.ifCond .ne 44, 3) := by decide +kernel
theorem dX9_appeal_81 : decode cX9_appeal 81 = .ok (.aload_n 0, 1) := by decide +kernel
theorem dX9_appeal_82 : decode cX9_appeal 82 = .ok (.aload_n 0, 1) := by decide +kernel
theorem dX9_appeal_83 : decode cX9_appeal 83 = .ok (.getfield 101, 3) := by decide +kernel
theorem dX9_appeal_86 : decode cX9_appeal 86 = .ok (.iload_n 1, 1) := by decide +kernel
theorem dX9_appeal_87 : decode cX9_appeal 87 = .ok (.iaload, 1) := by decide +kernel
theorem dX9_appeal_88 : decode cX9_appeal 88 = .ok (.aload_n 0, 1) := by decide +kernel
theorem dX9_appeal_89 : decode cX9_appeal 89 = .ok (.getfield 104, 3) := by decide +kernel
theorem dX9_appeal_92 : decode cX9_appeal 92 = .ok (.iload_n 1, 1) := by decide +kernel
theorem dX9_appeal_93 : decode cX9_appeal 93 = .ok (.iaload, 1) := by decide +kernel
theorem dX9_appeal_94 : decode cX9_appeal 94 = .ok (.aload_n 0, 1) := by decide +kernel
theorem dX9_appeal_95 : decode cX9_appeal 95 = .ok (.getfield 107, 3) := by decide +kernel
theorem dX9_appeal_98 : decode cX9_appeal 98 = .ok (.iload_n 1, 1) := by decide +kernel
theorem dX9_appeal_99 : decode cX9_appeal 99 = .ok (.iaload, 1) := by decide +kernel
theorem dX9_appeal_100 : decode cX9_appeal 100 = .ok (.aload_n 0, 1) := by decide +kernel
theorem dX9_appeal_101 : decode cX9_appeal 101 = .ok (.getfield 110, 3) := by decide +kernel
theorem dX9_appeal_104 : decode cX9_appeal 104 = .ok (.iload_n 1, 1) := by decide +kernel
theorem dX9_appeal_105 : decode cX9_appeal 105 = .ok (.iaload, 1) := by decide +kernel
theorem dX9_appeal_106 : decode cX9_appeal 106 = .ok (.aload_n 0, 1) := by decide +kernel
theorem dX9_appeal_107 : decode cX9_appeal 107 = .ok (.getfield 116, 3) := by decide +kernel
theorem dX9_appeal_110 : decode cX9_appeal 110 = .ok (.iload_n 1, 1) := by decide +kernel
theorem dX9_appeal_111 : decode cX9_appeal 111 = .ok (.iaload, 1) := by decide +kernel
theorem dX9_appeal_112 : decode cX9_appeal 112 = .ok (.invokevirtual 243, 3) := by decide +kernel
theorem dX9_appeal_115 : decode cX9_appeal 115 = .ok (.ifCond .ne 7, 3) := by decide +kernel
theorem dX9_appeal_118 : decode cX9_appeal 118 = .ok (.iconst 1, 1) := by decide +kernel
theorem dX9_appeal_119 : decode cX9_appeal 119 = .ok (.goto 4, 3) := by decide +kernel
theorem dX9_appeal_122 : decode cX9_appeal 122 = .ok (.iconst 0, 1) := by decide +kernel
theorem dX9_appeal_123 : decode cX9_appeal 123 = .ok (.bastore, 1) := by decide +kernel
theorem dX9_appeal_124 : decode cX9_appeal 124 = .ok (.aload_n 0, 1) := by decide +kernel
theorem dX9_appeal_125 : decode cX9_appeal 125 = .ok (.getfield 128, 3) := by decide +kernel
theorem dX9_appeal_128 : decode cX9_appeal 128 = .ok (.iload_n 1, 1) := by decide +kernel
theorem dX9_appeal_129 : decode cX9_appeal 129 = .ok (.baload, 1) := by decide +kernel
theorem dX9_appeal_130 : decode cX9_appeal 130 = .ok (.ireturn, 1) := by decide +kernel
theorem dX9_amount_0 : decode cX9_amount 0 = .ok (.aload_n 0, 1) := by decide +kernel
theorem dX9_amount_1 : decode cX9_amount 1 = .ok (.getfield 119, 3) := by decide +kernel
theorem dX9_amount_4 : decode cX9_amount 4 = .ok (.iload_n 1, 1) := by decide +kernel
theorem dX9_amount_5 : decode cX9_amount 5 = .ok (.iaload, 1) := by decide +kernel
theorem dX9_amount_6 : decode cX9_amount 6 = .ok (.iconst 1, 1) := by decide +kernel
theorem dX9_amount_7 : decode cX9_amount 7 = .ok (.if_icmp .ne 8, 3) := by decide +kernel
theorem dX9_amount_10 : decode cX9_amount 10 = .ok (.bipush 100, 2) := by decide +kernel
theorem dX9_amount_12 : decode cX9_amount 12 = .ok (.goto 35, 3) := by decide +kernel
theorem dX9_amount_15 : decode cX9_amount 15 = .ok (.aload_n 0, 1) := by decide +kernel
theorem dX9_amount_16 : decode cX9_amount 16 = .ok (.getfield 119, 3) := by decide +kernel
theorem dX9_amount_19 : decode cX9_amount 19 = .ok (.iload_n 1, 1) := by decide +kernel
theorem dX9_amount_20 : decode cX9_amount 20 = .ok (.iaload, 1) := by decide +kernel
theorem dX9_amount_21 : decode cX9_amount 21 = .ok (.iconst 2, 1) := by decide +kernel
theorem dX9_amount_22 : decode cX9_amount 22 = .ok (.if_icmp .ne 8, 3) := by decide +kernel
theorem dX9_amount_25 : decode cX9_amount 25 = .ok (.bipush 60, 2) := by decide +kernel
theorem dX9_amount_27 : decode cX9_amount 27 = .ok (.goto 20, 3) := by decide +kernel
theorem dX9_amount_30 : decode cX9_amount 30 = .ok (.aload_n 0, 1) := by decide +kernel
theorem dX9_amount_31 : decode cX9_amount 31 = .ok (.getfield 119, 3) := by decide +kernel
theorem dX9_amount_34 : decode cX9_amount 34 = .ok (.iload_n 1, 1) := by decide +kernel
theorem dX9_amount_35 : decode cX9_amount 35 = .ok (.iaload, 1) := by decide +kernel
theorem dX9_amount_36 : decode cX9_amount 36 = .ok (.iconst 3, 1) := by decide +kernel
theorem dX9_amount_37 : decode cX9_amount 37 = .ok (.if_icmp .ne 8, 3) := by decide +kernel
theorem dX9_amount_40 : decode cX9_amount 40 = .ok (.bipush 30, 2) := by decide +kernel
theorem dX9_amount_42 : decode cX9_amount 42 = .ok (.goto 5, 3) := by decide +kernel
theorem dX9_amount_45 : decode cX9_amount 45 = .ok (.bipush 40, 2) := by decide +kernel
theorem dX9_amount_47 : decode cX9_amount 47 = .ok (.ireturn, 1) := by decide +kernel
theorem dX9_payFine_0 : decode cX9_payFine 0 = .ok (.aload_n 0, 1) := by decide +kernel
theorem dX9_payFine_1 : decode cX9_payFine 1 = .ok (.iload_n 1, 1) := by decide +kernel
theorem dX9_payFine_2 : decode cX9_payFine 2 = .ok (.invokevirtual 261, 3) := by decide +kernel
theorem dX9_payFine_5 : decode cX9_payFine 5 = .ok (.istore_n 2, 1) := by decide +kernel
theorem dX9_payFine_6 : decode cX9_payFine 6 = .ok (.aload_n 0, 1) := by decide +kernel
theorem dX9_payFine_7 : decode cX9_payFine 7 = .ok (.iload_n 2, 1) := by decide +kernel
theorem dX9_payFine_8 : decode cX9_payFine 8 = .ok (.iload_n 2, 1) := by decide +kernel
theorem dX9_payFine_9 : decode cX9_payFine 9 = .ok (.ifCond .eq 41, 3) := by decide +kernel
theorem dX9_payFine_12 : decode cX9_payFine 12 = .ok (.aload_n 0, 1) := by decide +kernel
theorem dX9_payFine_13 : decode cX9_payFine 13 = .ok (.getfield 131, 3) := by decide +kernel
theorem dX9_payFine_16 : decode cX9_payFine 16 = .ok (.iload_n 2, 1) := by decide +kernel
theorem dX9_payFine_17 : decode cX9_payFine 17 = .ok (.ifCond .eq 7, 3) := by decide +kernel
theorem dX9_payFine_20 : decode cX9_payFine 20 = .ok (.iload_n 1, 1) := by decide +kernel
theorem dX9_payFine_21 : decode cX9_payFine 21 = .ok (.goto 4, 3) := by decide +kernel
theorem dX9_payFine_24 : decode cX9_payFine 24 = .ok (.iconst 0, 1) := by decide +kernel
theorem dX9_payFine_25 : decode cX9_payFine 25 = .ok (.baload, 1) := by decide +kernel
theorem dX9_payFine_26 : decode cX9_payFine 26 = .ok (.ifCond .ne 24, 3) := by decide +kernel
theorem dX9_payFine_29 : decode cX9_payFine 29 = .ok (.aload_n 0, 1) := by decide +kernel
theorem dX9_payFine_30 : decode cX9_payFine 30 = .ok (.getfield 128, 3) := by decide +kernel
theorem dX9_payFine_33 : decode cX9_payFine 33 = .ok (.iload_n 2, 1) := by decide +kernel
theorem dX9_payFine_34 : decode cX9_payFine 34 = .ok (.ifCond .eq 7, 3) := by decide +kernel
theorem dX9_payFine_37 : decode cX9_payFine 37 = .ok (.iload_n 1, 1) := by decide +kernel
theorem dX9_payFine_38 : decode cX9_payFine 38 = .ok (.goto 4, 3) := by decide +kernel
theorem dX9_payFine_41 : decode cX9_payFine 41 = .ok (.iconst 0, 1) := by decide +kernel
theorem dX9_payFine_42 : decode cX9_payFine 42 = .ok (.baload, 1) := by decide +kernel
theorem dX9_payFine_43 : decode cX9_payFine 43 = .ok (.ifCond .ne 7, 3) := by decide +kernel
theorem dX9_payFine_46 : decode cX9_payFine 46 = .ok (.iconst 1, 1) := by decide +kernel
theorem dX9_payFine_47 : decode cX9_payFine 47 = .ok (.goto 4, 3) := by decide +kernel
theorem dX9_payFine_50 : decode cX9_payFine 50 = .ok (.iconst 0, 1) := by decide +kernel
theorem dX9_payFine_51 : decode cX9_payFine 51 = .ok (.iconst 1, 1) := by decide +kernel
theorem dX9_payFine_52 : decode cX9_payFine 52 = .ok (.invokevirtual 167, 3) := by decide +kernel
theorem dX9_payFine_55 : decode cX9_payFine 55 = .ok (.ifCond .ne 5, 3) := by decide +kernel
theorem dX9_payFine_58 : decode cX9_payFine 58 = .ok (.iconst 0, 1) := by decide +kernel
theorem dX9_payFine_59 : decode cX9_payFine 59 = .ok (.ireturn, 1) := by decide +kernel
theorem dX9_payFine_60 : decode cX9_payFine 60 = .ok (.aload_n 0, 1) := by decide +kernel
theorem dX9_payFine_61 : decode cX9_payFine 61 = .ok (.getfield 131, 3) := by decide +kernel
theorem dX9_payFine_64 : decode cX9_payFine 64 = .ok (.iload_n 1, 1) := by decide +kernel
theorem dX9_payFine_65 : decode cX9_payFine 65 = .ok (.iconst 1, 1) := by decide +kernel
theorem dX9_payFine_66 : decode cX9_payFine 66 = .ok (.bastore, 1) := by decide +kernel
theorem dX9_payFine_67 : decode cX9_payFine 67 = .ok (.aload_n 0, 1) := by decide +kernel
theorem dX9_payFine_68 : decode cX9_payFine 68 = .ok (.iload_n 1, 1) := by decide +kernel
theorem dX9_payFine_69 : decode cX9_payFine 69 = .ok (.invokevirtual 264, 3) := by decide +kernel
theorem dX9_payFine_72 : decode cX9_payFine 72 = .ok (.ireturn, 1) := by decide +kernel
theorem dX9_fine_0 : decode cX9_fine 0 = .ok (.aload_n 0, 1) := by decide +kernel
theorem dX9_fine_1 : decode cX9_fine 1 = .ok (.aload_n 0, 1) := by decide +kernel
theorem dX9_fine_2 : decode cX9_fine 2 = .ok (.iload_n 1, 1) := by decide +kernel
theorem dX9_fine_3 : decode cX9_fine 3 = .ok (.invokevirtual 261, 3) := by decide +kernel
theorem dX9_fine_6 : decode cX9_fine 6 = .ok (.iload_n 2, 1) := by decide +kernel
theorem dX9_fine_7 : decode cX9_fine 7 = .ok (.iconst 0, 1) := by decide +kernel
theorem dX9_fine_8 : decode cX9_fine 8 = .ok (.iconst 5, 1) := by decide +kernel
theorem dX9_fine_9 : decode cX9_fine 9 = .ok (.invokestatic 153, 3) := by decide +kernel
theorem dX9_fine_12 : decode cX9_fine 12 = .ok (.iconst 1, 1) := by decide +kernel
theorem dX9_fine_13 : decode cX9_fine 13 = .ok (.invokevirtual 167, 3) := by decide +kernel
theorem dX9_fine_16 : decode cX9_fine 16 = .ok (.ifCond .ne 5, 3) := by decide +kernel
theorem dX9_fine_19 : decode cX9_fine 19 = .ok (.iconst 0, 1) := by decide +kernel
theorem dX9_fine_20 : decode cX9_fine 20 = .ok (.ireturn, 1) := by decide +kernel
theorem dX9_fine_21 : decode cX9_fine 21 = .ok (.iload_n 2, 1) := by decide +kernel
theorem dX9_fine_22 : decode cX9_fine 22 = .ok (.ifCond .ne 12, 3) := by decide +kernel
theorem dX9_fine_25 : decode cX9_fine 25 = .ok (.aload_n 0, 1) := by decide +kernel
theorem dX9_fine_26 : decode cX9_fine 26 = .ok (.getfield 101, 3) := by decide +kernel
theorem dX9_fine_29 : decode cX9_fine 29 = .ok (.iload_n 1, 1) := by decide +kernel
theorem dX9_fine_30 : decode cX9_fine 30 = .ok (.iaload, 1) := by decide +kernel
theorem dX9_fine_31 : decode cX9_fine 31 = .ok (.goto 76, 3) := by decide +kernel
theorem dX9_fine_34 : decode cX9_fine 34 = .ok (.iload_n 2, 1) := by decide +kernel
theorem dX9_fine_35 : decode cX9_fine 35 = .ok (.iconst 1, 1) := by decide +kernel
theorem dX9_fine_36 : decode cX9_fine 36 = .ok (.if_icmp .ne 12, 3) := by decide +kernel
theorem dX9_fine_39 : decode cX9_fine 39 = .ok (.aload_n 0, 1) := by decide +kernel
theorem dX9_fine_40 : decode cX9_fine 40 = .ok (.getfield 104, 3) := by decide +kernel
theorem dX9_fine_43 : decode cX9_fine 43 = .ok (.iload_n 1, 1) := by decide +kernel
theorem dX9_fine_44 : decode cX9_fine 44 = .ok (.iaload, 1) := by decide +kernel
theorem dX9_fine_45 : decode cX9_fine 45 = .ok (.goto 62, 3) := by decide +kernel
theorem dX9_fine_48 : decode cX9_fine 48 = .ok (.iload_n 2, 1) := by decide +kernel
theorem dX9_fine_49 : decode cX9_fine 49 = .ok (.iconst 2, 1) := by decide +kernel
theorem dX9_fine_50 : decode cX9_fine 50 = .ok (.if_icmp .ne 12, 3) := by decide +kernel
theorem dX9_fine_53 : decode cX9_fine 53 = .ok (.aload_n 0, 1) := by decide +kernel
theorem dX9_fine_54 : decode cX9_fine 54 = .ok (.getfield 116, 3) := by decide +kernel
theorem dX9_fine_57 : decode cX9_fine 57 = .ok (.iload_n 1, 1) := by decide +kernel
theorem dX9_fine_58 : decode cX9_fine 58 = .ok (.iaload, 1) := by decide +kernel
theorem dX9_fine_59 : decode cX9_fine 59 = .ok (.goto 48, 3) := by decide +kernel
theorem dX9_fine_62 : decode cX9_fine 62 = .ok (.iload_n 2, 1) := by decide +kernel
theorem dX9_fine_63 : decode cX9_fine 63 = .ok (.iconst 3, 1) := by decide +kernel
theorem dX9_fine_64 : decode cX9_fine 64 = .ok (.if_icmp .ne 12, 3) := by decide +kernel
theorem dX9_fine_67 : decode cX9_fine 67 = .ok (.aload_n 0, 1) := by decide +kernel
theorem dX9_fine_68 : decode cX9_fine 68 = .ok (.getfield 119, 3) := by decide +kernel
theorem dX9_fine_71 : decode cX9_fine 71 = .ok (.iload_n 1, 1) := by decide +kernel
theorem dX9_fine_72 : decode cX9_fine 72 = .ok (.iaload, 1) := by decide +kernel
theorem dX9_fine_73 : decode cX9_fine 73 = .ok (.goto 34, 3) := by decide +kernel
theorem dX9_fine_76 : decode cX9_fine 76 = .ok (.iload_n 2, 1) := by decide +kernel
theorem dX9_fine_77 : decode cX9_fine 77 = .ok (.iconst 4, 1) := by decide +kernel
theorem dX9_fine_78 : decode cX9_fine 78 = .ok (.if_icmp .ne 15, 3) := by decide +kernel
theorem dX9_fine_81 : decode cX9_fine 81 = .ok (.aload_n 0, 1) := by decide +kernel
theorem dX9_fine_82 : decode cX9_fine 82 = .ok (.getfield 128, 3) := by decide +kernel
theorem dX9_fine_85 : decode cX9_fine 85 = .ok (.iload_n 1, 1) := by decide +kernel
theorem dX9_fine_86 : decode cX9_fine 86 = .ok (.baload, 1) := by decide +kernel
theorem dX9_fine_87 : decode cX9_fine 87 = .ok (.ifCond .eq 19, 3) := by decide +kernel
theorem dX9_fine_90 : decode cX9_fine 90 = .ok (.goto 12, 3) := by decide +kernel
theorem dX9_fine_93 : decode cX9_fine 93 = .ok (.aload_n 0, 1) := by decide +kernel
theorem dX9_fine_94 : decode cX9_fine 94 = .ok (.getfield 131, 3) := by decide +kernel
theorem dX9_fine_97 : decode cX9_fine 97 = .ok (.iload_n 1, 1) := by decide +kernel
theorem dX9_fine_98 : decode cX9_fine 98 = .ok (.baload, 1) := by decide +kernel
theorem dX9_fine_99 : decode cX9_fine 99 = .ok (.ifCond .eq 7, 3) := by decide +kernel
theorem dX9_fine_102 : decode cX9_fine 102 = .ok (.iconst 1, 1) := by decide +kernel
theorem dX9_fine_103 : decode cX9_fine 103 = .ok (.goto 4, 3) := by decide +kernel
theorem dX9_fine_106 : decode cX9_fine 106 = .ok (.iconst 0, 1) := by decide +kernel
theorem dX9_fine_107 : decode cX9_fine 107 = .ok (.ireturn, 1) := by decide +kernel
theorem dX9_debtOf_0 : decode cX9_debtOf 0 = .ok (.iconst 0, 1) := by decide +kernel
theorem dX9_debtOf_1 : decode cX9_debtOf 1 = .ok (.istore_n 2, 1) := by decide +kernel
theorem dX9_debtOf_2 : decode cX9_debtOf 2 = .ok (.iconst 0, 1) := by decide +kernel
theorem dX9_debtOf_3 : decode cX9_debtOf 3 = .ok (.istore_n 3, 1) := by decide +kernel
theorem dX9_debtOf_4 : decode cX9_debtOf 4 = .ok (.iload_n 3, 1) := by decide +kernel
theorem dX9_debtOf_5 : decode cX9_debtOf 5 = .ok (.aload_n 0, 1) := by decide +kernel
theorem dX9_debtOf_6 : decode cX9_debtOf 6 = .ok (.getfield 251, 3) := by decide +kernel
theorem dX9_debtOf_9 : decode cX9_debtOf 9 = .ok (.if_icmp .ge 49, 3) := by decide +kernel
theorem dX9_debtOf_12 : decode cX9_debtOf 12 = .ok (.iload_n 2, 1) := by decide +kernel
theorem dX9_debtOf_13 : decode cX9_debtOf 13 = .ok (.aload_n 0, 1) := by decide +kernel
theorem dX9_debtOf_14 : decode cX9_debtOf 14 = .ok (.getfield 101, 3) := by decide +kernel
theorem dX9_debtOf_17 : decode cX9_debtOf 17 = .ok (.iload_n 3, 1) := by decide +kernel
theorem dX9_debtOf_18 : decode cX9_debtOf 18 = .ok (.iaload, 1) := by decide +kernel
theorem dX9_debtOf_19 : decode cX9_debtOf 19 = .ok (.iload_n 1, 1) := by decide +kernel
theorem dX9_debtOf_20 : decode cX9_debtOf 20 = .ok (.if_icmp .ne 29, 3) := by decide +kernel
theorem dX9_debtOf_23 : decode cX9_debtOf 23 = .ok (.aload_n 0, 1) := by decide +kernel
theorem dX9_debtOf_24 : decode cX9_debtOf 24 = .ok (.getfield 131, 3) := by decide +kernel
theorem dX9_debtOf_27 : decode cX9_debtOf 27 = .ok (.iload_n 3, 1) := by decide +kernel
theorem dX9_debtOf_28 : decode cX9_debtOf 28 = .ok (.baload, 1) := by decide +kernel
theorem dX9_debtOf_29 : decode cX9_debtOf 29 = .ok (.ifCond .ne 20, 3) := by decide +kernel
theorem dX9_debtOf_32 : decode cX9_debtOf 32 = .ok (.aload_n 0, 1) := by decide +kernel
theorem dX9_debtOf_33 : decode cX9_debtOf 33 = .ok (.getfield 128, 3) := by decide +kernel
theorem dX9_debtOf_36 : decode cX9_debtOf 36 = .ok (.iload_n 3, 1) := by decide +kernel
theorem dX9_debtOf_37 : decode cX9_debtOf 37 = .ok (.baload, 1) := by decide +kernel
theorem dX9_debtOf_38 : decode cX9_debtOf 38 = .ok (.ifCond .ne 11, 3) := by decide +kernel
theorem dX9_debtOf_41 : decode cX9_debtOf 41 = .ok (.aload_n 0, 1) := by decide +kernel
theorem dX9_debtOf_42 : decode cX9_debtOf 42 = .ok (.iload_n 3, 1) := by decide +kernel
theorem dX9_debtOf_43 : decode cX9_debtOf 43 = .ok (.invokevirtual 264, 3) := by decide +kernel
theorem dX9_debtOf_46 : decode cX9_debtOf 46 = .ok (.goto 4, 3) := by decide +kernel
theorem dX9_debtOf_49 : decode cX9_debtOf 49 = .ok (.iconst 0, 1) := by decide +kernel
theorem dX9_debtOf_50 : decode cX9_debtOf 50 = .ok (.iadd, 1) := by decide +kernel
theorem dX9_debtOf_51 : decode cX9_debtOf 51 = .ok (.istore_n 2, 1) := by decide +kernel
theorem dX9_debtOf_52 : decode cX9_debtOf 52 = .ok (.iinc 3 1, 3) := by decide +kernel
theorem dX9_debtOf_55 : decode cX9_debtOf 55 = .ok (.goto (-51), 3) := by decide +kernel
theorem dX9_debtOf_58 : decode cX9_debtOf 58 = .ok (.iload_n 2, 1) := by decide +kernel
theorem dX9_debtOf_59 : decode cX9_debtOf 59 = .ok (.ireturn, 1) := by decide +kernel
theorem dX9_debt_0 : decode cX9_debt 0 = .ok (.aload_n 0, 1) := by decide +kernel
theorem dX9_debt_1 : decode cX9_debt 1 = .ok (.aload_n 0, 1) := by decide +kernel
theorem dX9_debt_2 : decode cX9_debt 2 = .ok (.iload_n 1, 1) := by decide +kernel
theorem dX9_debt_3 : decode cX9_debt 3 = .ok (.invokevirtual 219, 3) := by decide +kernel
theorem dX9_debt_6 : decode cX9_debt 6 = .ok (.iconst 1, 1) := by decide +kernel
theorem dX9_debt_7 : decode cX9_debt 7 = .ok (.iconst 1, 1) := by decide +kernel
theorem dX9_debt_8 : decode cX9_debt 8 = .ok (.invokevirtual 167, 3) := by decide +kernel
theorem dX9_debt_11 : decode cX9_debt 11 = .ok (.ifCond .eq 11, 3) := by decide +kernel
theorem dX9_debt_14 : decode cX9_debt 14 = .ok (.aload_n 0, 1) := by decide +kernel
theorem dX9_debt_15 : decode cX9_debt 15 = .ok (.iload_n 1, 1) := by decide +kernel
theorem dX9_debt_16 : decode cX9_debt 16 = .ok (.invokevirtual 267, 3) := by decide +kernel
theorem dX9_debt_19 : decode cX9_debt 19 = .ok (.goto 4, 3) := by decide +kernel
theorem dX9_debt_22 : decode cX9_debt 22 = .ok (.iconst 0, 1) := by decide +kernel
theorem dX9_debt_23 : decode cX9_debt 23 = .ok (.ireturn, 1) := by decide +kernel
theorem dX9_tow_0 : decode cX9_tow 0 = .ok (.aload_n 0, 1) := by decide +kernel
theorem dX9_tow_1 : decode cX9_tow 1 = .ok (.iload_n 1, 1) := by decide +kernel
theorem dX9_tow_2 : decode cX9_tow 2 = .ok (.invokevirtual 219, 3) := by decide +kernel
theorem dX9_tow_5 : decode cX9_tow 5 = .ok (.istore_n 2, 1) := by decide +kernel
theorem dX9_tow_6 : decode cX9_tow 6 = .ok (.aload_n 0, 1) := by decide +kernel
theorem dX9_tow_7 : decode cX9_tow 7 = .ok (.iload_n 2, 1) := by decide +kernel
theorem dX9_tow_8 : decode cX9_tow 8 = .ok (.iload_n 2, 1) := by decide +kernel
theorem dX9_tow_9 : decode cX9_tow 9 = .ok (.ifCond .eq 36, 3) := by decide +kernel
theorem dX9_tow_12 : decode cX9_tow 12 = .ok (.aload_n 0, 1) := by decide +kernel
theorem dX9_tow_13 : decode cX9_tow 13 = .ok (.getfield 62, 3) := by decide +kernel
theorem dX9_tow_16 : decode cX9_tow 16 = .ok (.iload_n 2, 1) := by decide +kernel
theorem dX9_tow_17 : decode cX9_tow 17 = .ok (.ifCond .eq 7, 3) := by decide +kernel
theorem dX9_tow_20 : decode cX9_tow 20 = .ok (.iload_n 1, 1) := by decide +kernel
theorem dX9_tow_21 : decode cX9_tow 21 = .ok (.goto 4, 3) := by decide +kernel
theorem dX9_tow_24 : decode cX9_tow 24 = .ok (.iconst 0, 1) := by decide +kernel
theorem dX9_tow_25 : decode cX9_tow 25 = .ok (.iaload, 1) := by decide +kernel
theorem dX9_tow_26 : decode cX9_tow 26 = .ok (.iconst (-1), 1) := by decide +kernel
theorem dX9_tow_27 : decode cX9_tow 27 = .ok (.if_icmp .eq 18, 3) := by decide +kernel
theorem dX9_tow_30 : decode cX9_tow 30 = .ok (.aload_n 0, 1) := by decide +kernel
theorem dX9_tow_31 : decode cX9_tow 31 = .ok (.iload_n 1, 1) := by decide +kernel
theorem dX9_tow_32 : decode cX9_tow 32 = .ok (.invokevirtual 267, 3) := by decide +kernel
theorem dX9_tow_35 : decode cX9_tow 35 = .ok (.sipush 200, 3) := by decide +kernel
theorem dX9_tow_38 : decode cX9_tow 38 = .ok (.if_icmp .lt 7, 3) := by decide +kernel
theorem dX9_tow_41 : decode cX9_tow 41 = .ok (.iconst 1, 1) := by decide +kernel
theorem dX9_tow_42 : decode cX9_tow 42 = .ok (.goto 4, 3) := by decide +kernel
theorem dX9_tow_45 : decode cX9_tow 45 = .ok (.iconst 0, 1) := by decide +kernel
theorem dX9_tow_46 : decode cX9_tow 46 = .ok (.iconst 1, 1) := by decide +kernel
theorem dX9_tow_47 : decode cX9_tow 47 = .ok (.invokevirtual 167, 3) := by decide +kernel
theorem dX9_tow_50 : decode cX9_tow 50 = .ok (.ifCond .ne 5, 3) := by decide +kernel
theorem dX9_tow_53 : decode cX9_tow 53 = .ok (.iconst 0, 1) := by decide +kernel
theorem dX9_tow_54 : decode cX9_tow 54 = .ok (.ireturn, 1) := by decide +kernel
theorem dX9_tow_55 : decode cX9_tow 55 = .ok (.aload_n 0, 1) := by decide +kernel
theorem dX9_tow_56 : decode cX9_tow 56 = .ok (.getfield 62, 3) := by decide +kernel
theorem dX9_tow_59 : decode cX9_tow 59 = .ok (.iload_n 1, 1) := by decide +kernel
theorem dX9_tow_60 : decode cX9_tow 60 = .ok (.iconst (-1), 1) := by decide +kernel
theorem dX9_tow_61 : decode cX9_tow 61 = .ok (.iastore, 1) := by decide +kernel
theorem dX9_tow_62 : decode cX9_tow 62 = .ok (.aload_n 0, 1) := by decide +kernel
theorem dX9_tow_63 : decode cX9_tow 63 = .ok (.iload_n 1, 1) := by decide +kernel
theorem dX9_tow_64 : decode cX9_tow 64 = .ok (.invokevirtual 267, 3) := by decide +kernel
theorem dX9_tow_67 : decode cX9_tow 67 = .ok (.ireturn, 1) := by decide +kernel
theorem dX9_takenIn_0 : decode cX9_takenIn 0 = .ok (.iconst 0, 1) := by decide +kernel
theorem dX9_takenIn_1 : decode cX9_takenIn 1 = .ok (.istore_n 2, 1) := by decide +kernel
theorem dX9_takenIn_2 : decode cX9_takenIn 2 = .ok (.iconst 0, 1) := by decide +kernel
theorem dX9_takenIn_3 : decode cX9_takenIn 3 = .ok (.istore_n 3, 1) := by decide +kernel
theorem dX9_takenIn_4 : decode cX9_takenIn 4 = .ok (.iload_n 3, 1) := by decide +kernel
theorem dX9_takenIn_5 : decode cX9_takenIn 5 = .ok (.aload_n 0, 1) := by decide +kernel
theorem dX9_takenIn_6 : decode cX9_takenIn 6 = .ok (.getfield 157, 3) := by decide +kernel
theorem dX9_takenIn_9 : decode cX9_takenIn 9 = .ok (.if_icmp .ge 32, 3) := by decide +kernel
theorem dX9_takenIn_12 : decode cX9_takenIn 12 = .ok (.iload_n 2, 1) := by decide +kernel
theorem dX9_takenIn_13 : decode cX9_takenIn 13 = .ok (.aload_n 0, 1) := by decide +kernel
theorem dX9_takenIn_14 : decode cX9_takenIn 14 = .ok (.getfield 62, 3) := by decide +kernel
theorem dX9_takenIn_17 : decode cX9_takenIn 17 = .ok (.iload_n 3, 1) := by decide +kernel
theorem dX9_takenIn_18 : decode cX9_takenIn 18 = .ok (.iaload, 1) := by decide +kernel
theorem dX9_takenIn_19 : decode cX9_takenIn 19 = .ok (.iload_n 1, 1) := by decide +kernel
theorem dX9_takenIn_20 : decode cX9_takenIn 20 = .ok (.if_icmp .ne 12, 3) := by decide +kernel
theorem dX9_takenIn_23 : decode cX9_takenIn 23 = .ok (.aload_n 0, 1) := by decide +kernel
theorem dX9_takenIn_24 : decode cX9_takenIn 24 = .ok (.getfield 56, 3) := by decide +kernel
theorem dX9_takenIn_27 : decode cX9_takenIn 27 = .ok (.iload_n 3, 1) := by decide +kernel
theorem dX9_takenIn_28 : decode cX9_takenIn 28 = .ok (.iaload, 1) := by decide +kernel
theorem dX9_takenIn_29 : decode cX9_takenIn 29 = .ok (.goto 4, 3) := by decide +kernel
theorem dX9_takenIn_32 : decode cX9_takenIn 32 = .ok (.iconst 0, 1) := by decide +kernel
theorem dX9_takenIn_33 : decode cX9_takenIn 33 = .ok (.iadd, 1) := by decide +kernel
theorem dX9_takenIn_34 : decode cX9_takenIn 34 = .ok (.istore_n 2, 1) := by decide +kernel
theorem dX9_takenIn_35 : decode cX9_takenIn 35 = .ok (.iinc 3 1, 3) := by decide +kernel
theorem dX9_takenIn_38 : decode cX9_takenIn 38 = .ok (.goto (-34), 3) := by decide +kernel
theorem dX9_takenIn_41 : decode cX9_takenIn 41 = .ok (.iload_n 2, 1) := by decide +kernel
theorem dX9_takenIn_42 : decode cX9_takenIn 42 = .ok (.ireturn, 1) := by decide +kernel
theorem dX9_streetIs_0 : decode cX9_streetIs 0 = .ok (.aload_n 0, 1) := by decide +kernel
theorem dX9_streetIs_1 : decode cX9_streetIs 1 = .ok (.iload_n 1, 1) := by decide +kernel
theorem dX9_streetIs_2 : decode cX9_streetIs 2 = .ok (.invokestatic 160, 3) := by decide +kernel
theorem dX9_streetIs_5 : decode cX9_streetIs 5 = .ok (.iload_n 2, 1) := by decide +kernel
theorem dX9_streetIs_6 : decode cX9_streetIs 6 = .ok (.iconst 0, 1) := by decide +kernel
theorem dX9_streetIs_7 : decode cX9_streetIs 7 = .ok (.iconst 4, 1) := by decide +kernel
theorem dX9_streetIs_8 : decode cX9_streetIs 8 = .ok (.invokestatic 153, 3) := by decide +kernel
theorem dX9_streetIs_11 : decode cX9_streetIs 11 = .ok (.iconst 1, 1) := by decide +kernel
theorem dX9_streetIs_12 : decode cX9_streetIs 12 = .ok (.invokevirtual 167, 3) := by decide +kernel
theorem dX9_streetIs_15 : decode cX9_streetIs 15 = .ok (.ifCond .ne 5, 3) := by decide +kernel
theorem dX9_streetIs_18 : decode cX9_streetIs 18 = .ok (.iconst 0, 1) := by decide +kernel
theorem dX9_streetIs_19 : decode cX9_streetIs 19 = .ok (.ireturn, 1) := by decide +kernel
theorem dX9_streetIs_20 : decode cX9_streetIs 20 = .ok (.iload_n 2, 1) := by decide +kernel
theorem dX9_streetIs_21 : decode cX9_streetIs 21 = .ok (.ifCond .ne 12, 3) := by decide +kernel
theorem dX9_streetIs_24 : decode cX9_streetIs 24 = .ok (.aload_n 0, 1) := by decide +kernel
theorem dX9_streetIs_25 : decode cX9_streetIs 25 = .ok (.getfield 134, 3) := by decide +kernel
theorem dX9_streetIs_28 : decode cX9_streetIs 28 = .ok (.iload_n 1, 1) := by decide +kernel
theorem dX9_streetIs_29 : decode cX9_streetIs 29 = .ok (.iaload, 1) := by decide +kernel
theorem dX9_streetIs_30 : decode cX9_streetIs 30 = .ok (.goto 50, 3) := by decide +kernel
theorem dX9_streetIs_33 : decode cX9_streetIs 33 = .ok (.iload_n 2, 1) := by decide +kernel
theorem dX9_streetIs_34 : decode cX9_streetIs 34 = .ok (.iconst 1, 1) := by decide +kernel
theorem dX9_streetIs_35 : decode cX9_streetIs 35 = .ok (.if_icmp .ne 11, 3) := by decide +kernel
theorem dX9_streetIs_38 : decode cX9_streetIs 38 = .ok (.aload_n 0, 1) := by decide +kernel
theorem dX9_streetIs_39 : decode cX9_streetIs 39 = .ok (.iload_n 1, 1) := by decide +kernel
theorem dX9_streetIs_40 : decode cX9_streetIs 40 = .ok (.invokevirtual 270, 3) := by decide +kernel
theorem dX9_streetIs_43 : decode cX9_streetIs 43 = .ok (.goto 37, 3) := by decide +kernel
theorem dX9_streetIs_46 : decode cX9_streetIs 46 = .ok (.iload_n 2, 1) := by decide +kernel
theorem dX9_streetIs_47 : decode cX9_streetIs 47 = .ok (.iconst 2, 1) := by decide +kernel
theorem dX9_streetIs_48 : decode cX9_streetIs 48 = .ok (.if_icmp .ne 12, 3) := by decide +kernel
theorem dX9_streetIs_51 : decode cX9_streetIs 51 = .ok (.aload_n 0, 1) := by decide +kernel
theorem dX9_streetIs_52 : decode cX9_streetIs 52 = .ok (.getfield 137, 3) := by decide +kernel
theorem dX9_streetIs_55 : decode cX9_streetIs 55 = .ok (.iload_n 1, 1) := by decide +kernel
theorem dX9_streetIs_56 : decode cX9_streetIs 56 = .ok (.iaload, 1) := by decide +kernel
theorem dX9_streetIs_57 : decode cX9_streetIs 57 = .ok (.goto 23, 3) := by decide +kernel
theorem dX9_streetIs_60 : decode cX9_streetIs 60 = .ok (.iload_n 2, 1) := by decide +kernel
theorem dX9_streetIs_61 : decode cX9_streetIs 61 = .ok (.iconst 3, 1) := by decide +kernel
theorem dX9_streetIs_62 : decode cX9_streetIs 62 = .ok (.if_icmp .ne 12, 3) := by decide +kernel
theorem dX9_streetIs_65 : decode cX9_streetIs 65 = .ok (.aload_n 0, 1) := by decide +kernel
theorem dX9_streetIs_66 : decode cX9_streetIs 66 = .ok (.getfield 140, 3) := by decide +kernel
theorem dX9_streetIs_69 : decode cX9_streetIs 69 = .ok (.iload_n 1, 1) := by decide +kernel
theorem dX9_streetIs_70 : decode cX9_streetIs 70 = .ok (.iaload, 1) := by decide +kernel
theorem dX9_streetIs_71 : decode cX9_streetIs 71 = .ok (.goto 9, 3) := by decide +kernel
theorem dX9_streetIs_74 : decode cX9_streetIs 74 = .ok (.aload_n 0, 1) := by decide +kernel
theorem dX9_streetIs_75 : decode cX9_streetIs 75 = .ok (.getfield 143, 3) := by decide +kernel
theorem dX9_streetIs_78 : decode cX9_streetIs 78 = .ok (.iload_n 1, 1) := by decide +kernel
theorem dX9_streetIs_79 : decode cX9_streetIs 79 = .ok (.iaload, 1) := by decide +kernel
theorem dX9_streetIs_80 : decode cX9_streetIs 80 = .ok (.ireturn, 1) := by decide +kernel
theorem dX9_begins_0 : decode cX9_begins 0 = .ok (.bipush 100, 2) := by decide +kernel
theorem dX9_begins_2 : decode cX9_begins 2 = .ok (.aload_n 0, 1) := by decide +kernel
theorem dX9_begins_3 : decode cX9_begins 3 = .ok (.getfield 143, 3) := by decide +kernel
theorem dX9_begins_6 : decode cX9_begins 6 = .ok (.iload_n 1, 1) := by decide +kernel
theorem dX9_begins_7 : decode cX9_begins 7 = .ok (.iaload, 1) := by decide +kernel
theorem dX9_begins_8 : decode cX9_begins 8 = .ok (.imul, 1) := by decide +kernel
theorem dX9_begins_9 : decode cX9_begins 9 = .ok (.istore_n 2, 1) := by decide +kernel
theorem dX9_begins_10 : decode cX9_begins 10 = .ok (.aload_n 0, 1) := by decide +kernel
theorem dX9_begins_11 : decode cX9_begins 11 = .ok (.getfield 134, 3) := by decide +kernel
theorem dX9_begins_14 : decode cX9_begins 14 = .ok (.iload_n 1, 1) := by decide +kernel
theorem dX9_begins_15 : decode cX9_begins 15 = .ok (.dup2, 1) := by decide +kernel
theorem dX9_begins_16 : decode cX9_begins 16 = .ok (.iaload, 1) := by decide +kernel
theorem dX9_begins_17 : decode cX9_begins 17 = .ok (.iload_n 2, 1) := by decide +kernel
theorem dX9_begins_18 : decode cX9_begins 18 = .ok (.ldc_w 273, 3) := by decide +kernel
theorem dX9_begins_21 : decode cX9_begins 21 = .ok (.if_icmp .le 18, 3) := by decide +kernel
theorem dX9_begins_24 : decode cX9_begins 24 = .ok (.aload_n 0, 1) := by decide +kernel
theorem dX9_begins_25 : decode cX9_begins 25 = .ok (.getfield 134, 3) := by decide +kernel
theorem dX9_begins_28 : decode cX9_begins 28 = .ok (.iload_n 1, 1) := by decide +kernel
theorem dX9_begins_29 : decode cX9_begins 29 = .ok (.iaload, 1) := by decide +kernel
theorem dX9_begins_30 : decode cX9_begins 30 = .ok (.bipush 20, 2) := by decide +kernel
theorem dX9_begins_32 : decode cX9_begins 32 = .ok (.if_icmp .ge 7, 3) := by decide +kernel
theorem dX9_begins_35 : decode cX9_begins 35 = .ok (.iconst 1, 1) := by decide +kernel
theorem dX9_begins_36 : decode cX9_begins 36 = .ok (.goto 24, 3) := by decide +kernel
theorem dX9_begins_39 : decode cX9_begins 39 = .ok (.iload_n 2, 1) := by decide +kernel
theorem dX9_begins_40 : decode cX9_begins 40 = .ok (.ldc_w 274, 3) := by decide +kernel
theorem dX9_begins_43 : decode cX9_begins 43 = .ok (.if_icmp .ge 16, 3) := by decide +kernel
theorem dX9_begins_46 : decode cX9_begins 46 = .ok (.aload_n 0, 1) := by decide +kernel
theorem dX9_begins_47 : decode cX9_begins 47 = .ok (.getfield 134, 3) := by decide +kernel
theorem dX9_begins_50 : decode cX9_begins 50 = .ok (.iload_n 1, 1) := by decide +kernel
theorem dX9_begins_51 : decode cX9_begins 51 = .ok (.iaload, 1) := by decide +kernel
theorem dX9_begins_52 : decode cX9_begins 52 = .ok (.ifCond .le 7, 3) := by decide +kernel
theorem dX9_begins_55 : decode cX9_begins 55 = .ok (.iconst (-1), 1) := by decide +kernel
theorem dX9_begins_56 : decode cX9_begins 56 = .ok (.goto 4, 3) := by decide +kernel
theorem dX9_begins_59 : decode cX9_begins 59 = .ok (.iconst 0, 1) := by decide +kernel
theorem dX9_begins_60 : decode cX9_begins 60 = .ok (.iadd, 1) := by decide +kernel
theorem dX9_begins_61 : decode cX9_begins 61 = .ok (.iastore, 1) := by decide +kernel
theorem dX9_begins_62 : decode cX9_begins 62 = .ok (.aload_n 0, 1) := by decide +kernel
theorem dX9_begins_63 : decode cX9_begins 63 = .ok (.getfield 143, 3) := by decide +kernel
theorem dX9_begins_66 : decode cX9_begins 66 = .ok (.iload_n 1, 1) := by decide +kernel
theorem dX9_begins_67 : decode cX9_begins 67 = .ok (.iconst 0, 1) := by decide +kernel
theorem dX9_begins_68 : decode cX9_begins 68 = .ok (.iastore, 1) := by decide +kernel
theorem dX9_begins_69 : decode cX9_begins 69 = .ok (.return_, 1) := by decide +kernel
theorem dX9_pass_0 : decode cX9_pass 0 = .ok (.aload_n 0, 1) := by decide +kernel
theorem dX9_pass_1 : decode cX9_pass 1 = .ok (.iload_n 1, 1) := by decide +kernel
theorem dX9_pass_2 : decode cX9_pass 2 = .ok (.iconst 1, 1) := by decide +kernel
theorem dX9_pass_3 : decode cX9_pass 3 = .ok (.bipush 96, 2) := by decide +kernel
theorem dX9_pass_5 : decode cX9_pass 5 = .ok (.invokestatic 153, 3) := by decide +kernel
theorem dX9_pass_8 : decode cX9_pass 8 = .ok (.aload_n 0, 1) := by decide +kernel
theorem dX9_pass_9 : decode cX9_pass 9 = .ok (.getfield 189, 3) := by decide +kernel
theorem dX9_pass_12 : decode cX9_pass 12 = .ok (.iload_n 1, 1) := by decide +kernel
theorem dX9_pass_13 : decode cX9_pass 13 = .ok (.iadd, 1) := by decide +kernel
theorem dX9_pass_14 : decode cX9_pass 14 = .ok (.ldc 193, 2) := by decide +kernel
theorem dX9_pass_16 : decode cX9_pass 16 = .ok (.if_icmp .gt 7, 3) := by decide +kernel
theorem dX9_pass_19 : decode cX9_pass 19 = .ok (.iconst 1, 1) := by decide +kernel
theorem dX9_pass_20 : decode cX9_pass 20 = .ok (.goto 4, 3) := by decide +kernel
theorem dX9_pass_23 : decode cX9_pass 23 = .ok (.iconst 0, 1) := by decide +kernel
theorem dX9_pass_24 : decode cX9_pass 24 = .ok (.iconst 1, 1) := by decide +kernel
theorem dX9_pass_25 : decode cX9_pass 25 = .ok (.invokevirtual 167, 3) := by decide +kernel
theorem dX9_pass_28 : decode cX9_pass 28 = .ok (.ifCond .ne 5, 3) := by decide +kernel
theorem dX9_pass_31 : decode cX9_pass 31 = .ok (.iconst 0, 1) := by decide +kernel
theorem dX9_pass_32 : decode cX9_pass 32 = .ok (.ireturn, 1) := by decide +kernel
theorem dX9_pass_33 : decode cX9_pass 33 = .ok (.iconst 0, 1) := by decide +kernel
theorem dX9_pass_34 : decode cX9_pass 34 = .ok (.istore_n 2, 1) := by decide +kernel
theorem dX9_pass_35 : decode cX9_pass 35 = .ok (.iload_n 2, 1) := by decide +kernel
theorem dX9_pass_36 : decode cX9_pass 36 = .ok (.iload_n 1, 1) := by decide +kernel
theorem dX9_pass_37 : decode cX9_pass 37 = .ok (.if_icmp .ge 74, 3) := by decide +kernel
theorem dX9_pass_40 : decode cX9_pass 40 = .ok (.iconst 0, 1) := by decide +kernel
theorem dX9_pass_41 : decode cX9_pass 41 = .ok (.istore_n 3, 1) := by decide +kernel
theorem dX9_pass_42 : decode cX9_pass 42 = .ok (.iload_n 3, 1) := by decide +kernel
theorem dX9_pass_43 : decode cX9_pass 43 = .ok (.iconst 4, 1) := by decide +kernel
theorem dX9_pass_44 : decode cX9_pass 44 = .ok (.if_icmp .ge 23, 3) := by decide +kernel
theorem dX9_pass_47 : decode cX9_pass 47 = .ok (.aload_n 0, 1) := by decide +kernel
theorem dX9_pass_48 : decode cX9_pass 48 = .ok (.getfield 143, 3) := by decide +kernel
theorem dX9_pass_51 : decode cX9_pass 51 = .ok (.iload_n 3, 1) := by decide +kernel
theorem dX9_pass_52 : decode cX9_pass 52 = .ok (.dup2, 1) := by decide +kernel
theorem dX9_pass_53 : decode cX9_pass 53 = .ok (.iaload, 1) := by decide +kernel
theorem dX9_pass_54 : decode cX9_pass 54 = .ok (.aload_n 0, 1) := by decide +kernel
theorem dX9_pass_55 : decode cX9_pass 55 = .ok (.iload_n 3, 1) := by decide +kernel
theorem dX9_pass_56 : decode cX9_pass 56 = .ok (.invokevirtual 270, 3) := by decide +kernel
theorem dX9_pass_59 : decode cX9_pass 59 = .ok (.iadd, 1) := by decide +kernel
theorem dX9_pass_60 : decode cX9_pass 60 = .ok (.iastore, 1) := by decide +kernel
theorem dX9_pass_61 : decode cX9_pass 61 = .ok (.iinc 3 1, 3) := by decide +kernel
theorem dX9_pass_64 : decode cX9_pass 64 = .ok (.goto (-22), 3) := by decide +kernel
theorem dX9_pass_67 : decode cX9_pass 67 = .ok (.aload_n 0, 1) := by decide +kernel
theorem dX9_pass_68 : decode cX9_pass 68 = .ok (.dup, 1) := by decide +kernel
theorem dX9_pass_69 : decode cX9_pass 69 = .ok (.getfield 189, 3) := by decide +kernel
theorem dX9_pass_72 : decode cX9_pass 72 = .ok (.iconst 1, 1) := by decide +kernel
theorem dX9_pass_73 : decode cX9_pass 73 = .ok (.iadd, 1) := by decide +kernel
theorem dX9_pass_74 : decode cX9_pass 74 = .ok (.putfield 189, 3) := by decide +kernel
theorem dX9_pass_77 : decode cX9_pass 77 = .ok (.iconst 0, 1) := by decide +kernel
theorem dX9_pass_78 : decode cX9_pass 78 = .ok (.istore_n 3, 1) := by decide +kernel
theorem dX9_pass_79 : decode cX9_pass 79 = .ok (.iload_n 3, 1) := by decide +kernel
theorem dX9_pass_80 : decode cX9_pass 80 = .ok (.iconst 4, 1) := by decide +kernel
theorem dX9_pass_81 : decode cX9_pass 81 = .ok (.if_icmp .ge 24, 3) := by decide +kernel
theorem dX9_pass_84 : decode cX9_pass 84 = .ok (.aload_n 0, 1) := by decide +kernel
theorem dX9_pass_85 : decode cX9_pass 85 = .ok (.getfield 189, 3) := by decide +kernel
theorem dX9_pass_88 : decode cX9_pass 88 = .ok (.bipush 96, 2) := by decide +kernel
theorem dX9_pass_90 : decode cX9_pass 90 = .ok (.irem, 1) := by decide +kernel
theorem dX9_pass_91 : decode cX9_pass 91 = .ok (.ifCond .ne 14, 3) := by decide +kernel
theorem dX9_pass_94 : decode cX9_pass 94 = .ok (.aload_n 0, 1) := by decide +kernel
theorem dX9_pass_95 : decode cX9_pass 95 = .ok (.iload_n 3, 1) := by decide +kernel
theorem dX9_pass_96 : decode cX9_pass 96 = .ok (.invokevirtual 275, 3) := by decide +kernel
theorem dX9_pass_99 : decode cX9_pass 99 = .ok (.iinc 3 1, 3) := by decide +kernel
theorem dX9_pass_102 : decode cX9_pass 102 = .ok (.goto (-23), 3) := by decide +kernel
theorem dX9_pass_105 : decode cX9_pass 105 = .ok (.iinc 2 1, 3) := by decide +kernel
theorem dX9_pass_108 : decode cX9_pass 108 = .ok (.goto (-73), 3) := by decide +kernel
theorem dX9_pass_111 : decode cX9_pass 111 = .ok (.aload_n 0, 1) := by decide +kernel
theorem dX9_pass_112 : decode cX9_pass 112 = .ok (.getfield 189, 3) := by decide +kernel
theorem dX9_pass_115 : decode cX9_pass 115 = .ok (.ireturn, 1) := by decide +kernel
theorem dJ9_max_7cf53_0 : decode cJ9_max_7cf53 0 = .ok (.iload_n 0, 1) := by decide +kernel
theorem dJ9_max_7cf53_1 : decode cJ9_max_7cf53 1 = .ok (.iload_n 1, 1) := by decide +kernel
theorem dJ9_max_7cf53_2 : decode cJ9_max_7cf53 2 = .ok (.if_icmp .lt 7, 3) := by decide +kernel
theorem dJ9_max_7cf53_5 : decode cJ9_max_7cf53 5 = .ok (.iload_n 0, 1) := by decide +kernel
theorem dJ9_max_7cf53_6 : decode cJ9_max_7cf53 6 = .ok (.goto 4, 3) := by decide +kernel
theorem dJ9_max_7cf53_9 : decode cJ9_max_7cf53 9 = .ok (.iload_n 1, 1) := by decide +kernel
theorem dJ9_max_7cf53_10 : decode cJ9_max_7cf53 10 = .ok (.ireturn, 1) := by decide +kernel
theorem dJ9_min_7cf53_0 : decode cJ9_min_7cf53 0 = .ok (.iload_n 0, 1) := by decide +kernel
theorem dJ9_min_7cf53_1 : decode cJ9_min_7cf53 1 = .ok (.iload_n 1, 1) := by decide +kernel
theorem dJ9_min_7cf53_2 : decode cJ9_min_7cf53 2 = .ok (.if_icmp .gt 7, 3) := by decide +kernel
theorem dJ9_min_7cf53_5 : decode cJ9_min_7cf53 5 = .ok (.iload_n 0, 1) := by decide +kernel
theorem dJ9_min_7cf53_6 : decode cJ9_min_7cf53 6 = .ok (.goto 4, 3) := by decide +kernel
theorem dJ9_min_7cf53_9 : decode cJ9_min_7cf53 9 = .ok (.iload_n 1, 1) := by decide +kernel
theorem dJ9_min_7cf53_10 : decode cJ9_min_7cf53 10 = .ok (.ireturn, 1) := by decide +kernel
theorem dJxa1e45_init_da8c8_0 : decode cJxa1e45_init_da8c8 0 = .ok (.aload_n 0, 1) := by decide +kernel
theorem dJxa1e45_init_da8c8_1 : decode cJxa1e45_init_da8c8 1 = .ok (.invokespecial 1, 3) := by decide +kernel
theorem dJxa1e45_init_da8c8_4 : decode cJxa1e45_init_da8c8 4 = .ok (.return_, 1) := by decide +kernel
theorem dJxc12de_init_da8c8_0 : decode cJxc12de_init_da8c8 0 = .ok (.aload_n 0, 1) := by decide +kernel
theorem dJxc12de_init_da8c8_1 : decode cJxc12de_init_da8c8 1 = .ok (.invokespecial 1, 3) := by decide +kernel
theorem dJxc12de_init_da8c8_4 : decode cJxc12de_init_da8c8 4 = .ok (.aload_n 0, 1) := by decide +kernel
theorem dJxc12de_init_da8c8_5 : decode cJxc12de_init_da8c8 5 = .ok (.iconst 0, 1) := by decide +kernel
theorem dJxc12de_init_da8c8_6 : decode cJxc12de_init_da8c8 6 = .ok (.putfield 7, 3) := by decide +kernel
theorem dJxc12de_init_da8c8_9 : decode cJxc12de_init_da8c8 9 = .ok (.return_, 1) := by decide +kernel
theorem dJx4a65c_init_da8c8_0 : decode cJx4a65c_init_da8c8 0 = .ok (.aload_n 0, 1) := by decide +kernel
theorem dJx4a65c_init_da8c8_1 : decode cJx4a65c_init_da8c8 1 = .ok (.invokespecial 1, 3) := by decide +kernel
theorem dJx4a65c_init_da8c8_4 : decode cJx4a65c_init_da8c8 4 = .ok (.aload_n 0, 1) := by decide +kernel
theorem dJx4a65c_init_da8c8_5 : decode cJx4a65c_init_da8c8 5 = .ok (.getstatic 39, 3) := by decide +kernel
theorem dJx4a65c_init_da8c8_8 : decode cJx4a65c_init_da8c8 8 = .ok (.putfield 9, 3) := by decide +kernel
theorem dJx4a65c_init_da8c8_11 : decode cJx4a65c_init_da8c8 11 = .ok (.return_, 1) := by decide +kernel
theorem dJx4a65c_grow_92f84_0 : decode cJx4a65c_grow_92f84 0 = .ok (.aload_n 0, 1) := by decide +kernel
theorem dJx4a65c_grow_92f84_1 : decode cJx4a65c_grow_92f84 1 = .ok (.getfield 9, 3) := by decide +kernel
theorem dJx4a65c_grow_92f84_4 : decode cJx4a65c_grow_92f84 4 = .ok (.arraylength, 1) := by decide +kernel
theorem dJx4a65c_grow_92f84_5 : decode cJx4a65c_grow_92f84 5 = .ok (.istore_n 2, 1) := by decide +kernel
theorem dJx4a65c_grow_92f84_6 : decode cJx4a65c_grow_92f84 6 = .ok (.iload_n 2, 1) := by decide +kernel
theorem dJx4a65c_grow_92f84_7 : decode cJx4a65c_grow_92f84 7 = .ok (.ifCond .gt 13, 3) := by decide +kernel
theorem dJx4a65c_grow_92f84_10 : decode cJx4a65c_grow_92f84 10 = .ok (.aload_n 0, 1) := by decide +kernel
theorem dJx4a65c_grow_92f84_11 : decode cJx4a65c_grow_92f84 11 = .ok (.getfield 9, 3) := by decide +kernel
theorem dJx4a65c_grow_92f84_14 : decode cJx4a65c_grow_92f84 14 = .ok (.getstatic 39, 3) := by decide +kernel
theorem dJx4a65c_grow_92f84_17 : decode cJx4a65c_grow_92f84 17 = .ok (.if_acmp .eq 28, 3) := by decide +kernel
theorem dJx4a65c_grow_92f84_20 : decode cJx4a65c_grow_92f84 20 = .ok (.iload_n 2, 1) := by decide +kernel
theorem dJx4a65c_grow_92f84_21 : decode cJx4a65c_grow_92f84 21 = .ok (.iload_n 1, 1) := by decide +kernel
theorem dJx4a65c_grow_92f84_22 : decode cJx4a65c_grow_92f84 22 = .ok (.iload_n 2, 1) := by decide +kernel
theorem dJx4a65c_grow_92f84_23 : decode cJx4a65c_grow_92f84 23 = .ok (.isub, 1) := by decide +kernel
theorem dJx4a65c_grow_92f84_24 : decode cJx4a65c_grow_92f84 24 = .ok (.iload_n 2, 1) := by decide +kernel
theorem dJx4a65c_grow_92f84_25 : decode cJx4a65c_grow_92f84 25 = .ok (.iconst 1, 1) := by decide +kernel
theorem dJx4a65c_grow_92f84_26 : decode cJx4a65c_grow_92f84 26 = .ok (.ishr, 1) := by decide +kernel
theorem dJx4a65c_grow_92f84_27 : decode cJx4a65c_grow_92f84 27 = .ok (.invokestatic 73, 3) := by decide +kernel
theorem dJx4a65c_grow_92f84_30 : decode cJx4a65c_grow_92f84 30 = .ok (.istore_n 3, 1) := by decide +kernel
theorem dJx4a65c_grow_92f84_31 : decode cJx4a65c_grow_92f84 31 = .ok (.aload_n 0, 1) := by decide +kernel
theorem dJx4a65c_grow_92f84_32 : decode cJx4a65c_grow_92f84 32 = .ok (.aload_n 0, 1) := by decide +kernel
end
section
theorem dJx4a65c_grow_92f84_33 : decode cJx4a65c_grow_92f84 33 = .ok (.getfield 9, 3) := by decide +kernel
theorem dJx4a65c_grow_92f84_36 : decode cJx4a65c_grow_92f84 36 = .ok (.iload_n 3, 1) := by decide +kernel
theorem dJx4a65c_grow_92f84_37 : decode cJx4a65c_grow_92f84 37 = .ok (.invokestatic 66, 3) := by decide +kernel
theorem dJx4a65c_grow_92f84_40 : decode cJx4a65c_grow_92f84 40 = .ok (.dup_x1, 1) := by decide +kernel
theorem dJx4a65c_grow_92f84_41 : decode cJx4a65c_grow_92f84 41 = .ok (.putfield 9, 3) := by decide +kernel
theorem dJx4a65c_grow_92f84_44 : decode cJx4a65c_grow_92f84 44 = .ok (.areturn, 1) := by decide +kernel
theorem dJx4a65c_grow_92f84_45 : decode cJx4a65c_grow_92f84 45 = .ok (.aload_n 0, 1) := by decide +kernel
theorem dJx4a65c_grow_92f84_46 : decode cJx4a65c_grow_92f84 46 = .ok (.bipush 10, 2) := by decide +kernel
theorem dJx4a65c_grow_92f84_48 : decode cJx4a65c_grow_92f84 48 = .ok (.iload_n 1, 1) := by decide +kernel
theorem dJx4a65c_grow_92f84_49 : decode cJx4a65c_grow_92f84 49 = .ok (.invokestatic 79, 3) := by decide +kernel
theorem dJx4a65c_grow_92f84_52 : decode cJx4a65c_grow_92f84 52 = .ok (.anewarray 7, 3) := by decide +kernel
theorem dJx4a65c_grow_92f84_55 : decode cJx4a65c_grow_92f84 55 = .ok (.dup_x1, 1) := by decide +kernel
theorem dJx4a65c_grow_92f84_56 : decode cJx4a65c_grow_92f84 56 = .ok (.putfield 9, 3) := by decide +kernel
theorem dJx4a65c_grow_92f84_59 : decode cJx4a65c_grow_92f84 59 = .ok (.areturn, 1) := by decide +kernel
theorem dJx4a65c_grow_d5877_0 : decode cJx4a65c_grow_d5877 0 = .ok (.aload_n 0, 1) := by decide +kernel
theorem dJx4a65c_grow_d5877_1 : decode cJx4a65c_grow_d5877 1 = .ok (.aload_n 0, 1) := by decide +kernel
theorem dJx4a65c_grow_d5877_2 : decode cJx4a65c_grow_d5877 2 = .ok (.getfield 48, 3) := by decide +kernel
theorem dJx4a65c_grow_d5877_5 : decode cJx4a65c_grow_d5877 5 = .ok (.iconst 1, 1) := by decide +kernel
theorem dJx4a65c_grow_d5877_6 : decode cJx4a65c_grow_d5877 6 = .ok (.iadd, 1) := by decide +kernel
theorem dJx4a65c_grow_d5877_7 : decode cJx4a65c_grow_d5877 7 = .ok (.invokevirtual 69, 3) := by decide +kernel
theorem dJx4a65c_grow_d5877_10 : decode cJx4a65c_grow_d5877 10 = .ok (.areturn, 1) := by decide +kernel
theorem dJx4a65c_size_8abf5_0 : decode cJx4a65c_size_8abf5 0 = .ok (.aload_n 0, 1) := by decide +kernel
theorem dJx4a65c_size_8abf5_1 : decode cJx4a65c_size_8abf5 1 = .ok (.getfield 48, 3) := by decide +kernel
theorem dJx4a65c_size_8abf5_4 : decode cJx4a65c_size_8abf5 4 = .ok (.ireturn, 1) := by decide +kernel
theorem dJx4a65c_elementData_915e3_0 : decode cJx4a65c_elementData_915e3 0 = .ok (.aload_n 0, 1) := by decide +kernel
theorem dJx4a65c_elementData_915e3_1 : decode cJx4a65c_elementData_915e3 1 = .ok (.getfield 9, 3) := by decide +kernel
theorem dJx4a65c_elementData_915e3_4 : decode cJx4a65c_elementData_915e3 4 = .ok (.iload_n 1, 1) := by decide +kernel
theorem dJx4a65c_elementData_915e3_5 : decode cJx4a65c_elementData_915e3 5 = .ok (.aaload, 1) := by decide +kernel
theorem dJx4a65c_elementData_915e3_6 : decode cJx4a65c_elementData_915e3 6 = .ok (.areturn, 1) := by decide +kernel
theorem dJx4a65c_get_915e3_0 : decode cJx4a65c_get_915e3 0 = .ok (.iload_n 1, 1) := by decide +kernel
theorem dJx4a65c_get_915e3_1 : decode cJx4a65c_get_915e3 1 = .ok (.aload_n 0, 1) := by decide +kernel
theorem dJx4a65c_get_915e3_2 : decode cJx4a65c_get_915e3 2 = .ok (.getfield 48, 3) := by decide +kernel
theorem dJx4a65c_get_915e3_5 : decode cJx4a65c_get_915e3 5 = .ok (.invokestatic 118, 3) := by decide +kernel
theorem dJx4a65c_get_915e3_8 : decode cJx4a65c_get_915e3 8 = .ok (.pop, 1) := by decide +kernel
theorem dJx4a65c_get_915e3_9 : decode cJx4a65c_get_915e3 9 = .ok (.aload_n 0, 1) := by decide +kernel
theorem dJx4a65c_get_915e3_10 : decode cJx4a65c_get_915e3 10 = .ok (.iload_n 1, 1) := by decide +kernel
theorem dJx4a65c_get_915e3_11 : decode cJx4a65c_get_915e3 11 = .ok (.invokevirtual 123, 3) := by decide +kernel
theorem dJx4a65c_get_915e3_14 : decode cJx4a65c_get_915e3 14 = .ok (.areturn, 1) := by decide +kernel
theorem dJx4a65c_add_72be8_0 : decode cJx4a65c_add_72be8 0 = .ok (.iload_n 3, 1) := by decide +kernel
theorem dJx4a65c_add_72be8_1 : decode cJx4a65c_add_72be8 1 = .ok (.aload_n 2, 1) := by decide +kernel
theorem dJx4a65c_add_72be8_2 : decode cJx4a65c_add_72be8 2 = .ok (.arraylength, 1) := by decide +kernel
theorem dJx4a65c_add_72be8_3 : decode cJx4a65c_add_72be8 3 = .ok (.if_icmp .ne 8, 3) := by decide +kernel
theorem dJx4a65c_add_72be8_6 : decode cJx4a65c_add_72be8 6 = .ok (.aload_n 0, 1) := by decide +kernel
theorem dJx4a65c_add_72be8_7 : decode cJx4a65c_add_72be8 7 = .ok (.invokevirtual 129, 3) := by decide +kernel
theorem dJx4a65c_add_72be8_10 : decode cJx4a65c_add_72be8 10 = .ok (.astore_n 2, 1) := by decide +kernel
theorem dJx4a65c_add_72be8_11 : decode cJx4a65c_add_72be8 11 = .ok (.aload_n 2, 1) := by decide +kernel
theorem dJx4a65c_add_72be8_12 : decode cJx4a65c_add_72be8 12 = .ok (.iload_n 3, 1) := by decide +kernel
theorem dJx4a65c_add_72be8_13 : decode cJx4a65c_add_72be8 13 = .ok (.aload_n 1, 1) := by decide +kernel
theorem dJx4a65c_add_72be8_14 : decode cJx4a65c_add_72be8 14 = .ok (.aastore, 1) := by decide +kernel
theorem dJx4a65c_add_72be8_15 : decode cJx4a65c_add_72be8 15 = .ok (.aload_n 0, 1) := by decide +kernel
theorem dJx4a65c_add_72be8_16 : decode cJx4a65c_add_72be8 16 = .ok (.iload_n 3, 1) := by decide +kernel
theorem dJx4a65c_add_72be8_17 : decode cJx4a65c_add_72be8 17 = .ok (.iconst 1, 1) := by decide +kernel
theorem dJx4a65c_add_72be8_18 : decode cJx4a65c_add_72be8 18 = .ok (.iadd, 1) := by decide +kernel
theorem dJx4a65c_add_72be8_19 : decode cJx4a65c_add_72be8 19 = .ok (.putfield 48, 3) := by decide +kernel
theorem dJx4a65c_add_72be8_22 : decode cJx4a65c_add_72be8 22 = .ok (.return_, 1) := by decide +kernel
theorem dJx4a65c_add_9ea2d_0 : decode cJx4a65c_add_9ea2d 0 = .ok (.aload_n 0, 1) := by decide +kernel
theorem dJx4a65c_add_9ea2d_1 : decode cJx4a65c_add_9ea2d 1 = .ok (.dup, 1) := by decide +kernel
theorem dJx4a65c_add_9ea2d_2 : decode cJx4a65c_add_9ea2d 2 = .ok (.getfield 63, 3) := by decide +kernel
theorem dJx4a65c_add_9ea2d_5 : decode cJx4a65c_add_9ea2d 5 = .ok (.iconst 1, 1) := by decide +kernel
theorem dJx4a65c_add_9ea2d_6 : decode cJx4a65c_add_9ea2d 6 = .ok (.iadd, 1) := by decide +kernel
theorem dJx4a65c_add_9ea2d_7 : decode cJx4a65c_add_9ea2d 7 = .ok (.putfield 63, 3) := by decide +kernel
theorem dJx4a65c_add_9ea2d_10 : decode cJx4a65c_add_9ea2d 10 = .ok (.aload_n 0, 1) := by decide +kernel
theorem dJx4a65c_add_9ea2d_11 : decode cJx4a65c_add_9ea2d 11 = .ok (.aload_n 1, 1) := by decide +kernel
theorem dJx4a65c_add_9ea2d_12 : decode cJx4a65c_add_9ea2d 12 = .ok (.aload_n 0, 1) := by decide +kernel
theorem dJx4a65c_add_9ea2d_13 : decode cJx4a65c_add_9ea2d 13 = .ok (.getfield 9, 3) := by decide +kernel
theorem dJx4a65c_add_9ea2d_16 : decode cJx4a65c_add_9ea2d 16 = .ok (.aload_n 0, 1) := by decide +kernel
theorem dJx4a65c_add_9ea2d_17 : decode cJx4a65c_add_9ea2d 17 = .ok (.getfield 48, 3) := by decide +kernel
theorem dJx4a65c_add_9ea2d_20 : decode cJx4a65c_add_9ea2d 20 = .ok (.invokevirtual 131, 3) := by decide +kernel
theorem dJx4a65c_add_9ea2d_23 : decode cJx4a65c_add_9ea2d 23 = .ok (.iconst 1, 1) := by decide +kernel
theorem dJx4a65c_add_9ea2d_24 : decode cJx4a65c_add_9ea2d 24 = .ok (.ireturn, 1) := by decide +kernel
theorem dJ7_copyOf_1904c_0 : decode cJ7_copyOf_1904c 0 = .ok (.aload_n 0, 1) := by decide +kernel
theorem dJ7_copyOf_1904c_1 : decode cJ7_copyOf_1904c 1 = .ok (.iload_n 1, 1) := by decide +kernel
theorem dJ7_copyOf_1904c_2 : decode cJ7_copyOf_1904c 2 = .ok (.aload_n 0, 1) := by decide +kernel
theorem dJ7_copyOf_1904c_3 : decode cJ7_copyOf_1904c 3 = .ok (.invokevirtual 86, 3) := by decide +kernel
theorem dJ7_copyOf_1904c_6 : decode cJ7_copyOf_1904c 6 = .ok (.invokestatic 300, 3) := by decide +kernel
theorem dJ7_copyOf_1904c_9 : decode cJ7_copyOf_1904c 9 = .ok (.areturn, 1) := by decide +kernel
theorem dJ7_copyOf_6403c_0 : decode cJ7_copyOf_6403c 0 = .ok (.aload_n 2, 1) := by decide +kernel
theorem dJ7_copyOf_6403c_1 : decode cJ7_copyOf_6403c 1 = .ok (.ldc 110, 2) := by decide +kernel
theorem dJ7_copyOf_6403c_3 : decode cJ7_copyOf_6403c 3 = .ok (.if_acmp .ne 10, 3) := by decide +kernel
theorem dJ7_copyOf_6403c_6 : decode cJ7_copyOf_6403c 6 = .ok (.iload_n 1, 1) := by decide +kernel
theorem dJ7_copyOf_6403c_7 : decode cJ7_copyOf_6403c 7 = .ok (.anewarray 2, 3) := by decide +kernel
theorem dJ7_copyOf_6403c_10 : decode cJ7_copyOf_6403c 10 = .ok (.goto 14, 3) := by decide +kernel
theorem dJ7_copyOf_6403c_13 : decode cJ7_copyOf_6403c 13 = .ok (.aload_n 2, 1) := by decide +kernel
theorem dJ7_copyOf_6403c_14 : decode cJ7_copyOf_6403c 14 = .ok (.invokevirtual 90, 3) := by decide +kernel
theorem dJ7_copyOf_6403c_17 : decode cJ7_copyOf_6403c 17 = .ok (.iload_n 1, 1) := by decide +kernel
theorem dJ7_copyOf_6403c_18 : decode cJ7_copyOf_6403c 18 = .ok (.invokestatic 95, 3) := by decide +kernel
theorem dJ7_copyOf_6403c_21 : decode cJ7_copyOf_6403c 21 = .ok (.checkcast 110, 3) := by decide +kernel
theorem dJ7_copyOf_6403c_24 : decode cJ7_copyOf_6403c 24 = .ok (.astore_n 3, 1) := by decide +kernel
theorem dJ7_copyOf_6403c_25 : decode cJ7_copyOf_6403c 25 = .ok (.aload_n 0, 1) := by decide +kernel
theorem dJ7_copyOf_6403c_26 : decode cJ7_copyOf_6403c 26 = .ok (.iconst 0, 1) := by decide +kernel
theorem dJ7_copyOf_6403c_27 : decode cJ7_copyOf_6403c 27 = .ok (.aload_n 3, 1) := by decide +kernel
theorem dJ7_copyOf_6403c_28 : decode cJ7_copyOf_6403c 28 = .ok (.iconst 0, 1) := by decide +kernel
theorem dJ7_copyOf_6403c_29 : decode cJ7_copyOf_6403c 29 = .ok (.aload_n 0, 1) := by decide +kernel
theorem dJ7_copyOf_6403c_30 : decode cJ7_copyOf_6403c 30 = .ok (.arraylength, 1) := by decide +kernel
theorem dJ7_copyOf_6403c_31 : decode cJ7_copyOf_6403c 31 = .ok (.iload_n 1, 1) := by decide +kernel
theorem dJ7_copyOf_6403c_32 : decode cJ7_copyOf_6403c 32 = .ok (.invokestatic 304, 3) := by decide +kernel
theorem dJ7_copyOf_6403c_35 : decode cJ7_copyOf_6403c 35 = .ok (.invokestatic 150, 3) := by decide +kernel
theorem dJ7_copyOf_6403c_38 : decode cJ7_copyOf_6403c 38 = .ok (.aload_n 3, 1) := by decide +kernel
theorem dJ7_copyOf_6403c_39 : decode cJ7_copyOf_6403c 39 = .ok (.areturn, 1) := by decide +kernel
theorem dJ15_checkIndex_7cf53_0 : decode cJ15_checkIndex_7cf53 0 = .ok (.iload_n 0, 1) := by decide +kernel
theorem dJ15_checkIndex_7cf53_1 : decode cJ15_checkIndex_7cf53 1 = .ok (.iload_n 1, 1) := by decide +kernel
theorem dJ15_checkIndex_7cf53_2 : decode cJ15_checkIndex_7cf53 2 = .ok (.aconst_null, 1) := by decide +kernel
theorem dJ15_checkIndex_7cf53_3 : decode cJ15_checkIndex_7cf53 3 = .ok (.invokestatic 105, 3) := by decide +kernel
theorem dJ15_checkIndex_7cf53_6 : decode cJ15_checkIndex_7cf53 6 = .ok (.ireturn, 1) := by decide +kernel
theorem dJ8_newLength_cabcc_0 : decode cJ8_newLength_cabcc 0 = .ok (.iload_n 0, 1) := by decide +kernel
theorem dJ8_newLength_cabcc_1 : decode cJ8_newLength_cabcc 1 = .ok (.iload_n 1, 1) := by decide +kernel
theorem dJ8_newLength_cabcc_2 : decode cJ8_newLength_cabcc 2 = .ok (.iload_n 2, 1) := by decide +kernel
theorem dJ8_newLength_cabcc_3 : decode cJ8_newLength_cabcc 3 = .ok (.invokestatic 194, 3) := by decide +kernel
theorem dJ8_newLength_cabcc_6 : decode cJ8_newLength_cabcc 6 = .ok (.iadd, 1) := by decide +kernel
theorem dJ8_newLength_cabcc_7 : decode cJ8_newLength_cabcc 7 = .ok (.istore_n 3, 1) := by decide +kernel
theorem dJ8_newLength_cabcc_8 : decode cJ8_newLength_cabcc 8 = .ok (.iconst 0, 1) := by decide +kernel
theorem dJ8_newLength_cabcc_9 : decode cJ8_newLength_cabcc 9 = .ok (.iload_n 3, 1) := by decide +kernel
theorem dJ8_newLength_cabcc_10 : decode cJ8_newLength_cabcc 10 = .ok (.if_icmp .ge 11, 3) := by decide +kernel
theorem dJ8_newLength_cabcc_13 : decode cJ8_newLength_cabcc 13 = .ok (.iload_n 3, 1) := by decide +kernel
theorem dJ8_newLength_cabcc_14 : decode cJ8_newLength_cabcc 14 = .ok (.ldc 200, 2) := by decide +kernel
theorem dJ8_newLength_cabcc_16 : decode cJ8_newLength_cabcc 16 = .ok (.if_icmp .gt 5, 3) := by decide +kernel
theorem dJ8_newLength_cabcc_19 : decode cJ8_newLength_cabcc 19 = .ok (.iload_n 3, 1) := by decide +kernel
theorem dJ8_newLength_cabcc_20 : decode cJ8_newLength_cabcc 20 = .ok (.ireturn, 1) := by decide +kernel
theorem dJ8_newLength_cabcc_21 : decode cJ8_newLength_cabcc 21 = .ok (.iload_n 0, 1) := by decide +kernel
theorem dJ8_newLength_cabcc_22 : decode cJ8_newLength_cabcc 22 = .ok (.iload_n 1, 1) := by decide +kernel
theorem dJ8_newLength_cabcc_23 : decode cJ8_newLength_cabcc 23 = .ok (.invokestatic 201, 3) := by decide +kernel
theorem dJ8_newLength_cabcc_26 : decode cJ8_newLength_cabcc 26 = .ok (.ireturn, 1) := by decide +kernel
theorem dJ8_hugeLength_7cf53_0 : decode cJ8_hugeLength_7cf53 0 = .ok (.iload_n 0, 1) := by decide +kernel
theorem dJ8_hugeLength_7cf53_1 : decode cJ8_hugeLength_7cf53 1 = .ok (.iload_n 1, 1) := by decide +kernel
theorem dJ8_hugeLength_7cf53_2 : decode cJ8_hugeLength_7cf53 2 = .ok (.iadd, 1) := by decide +kernel
theorem dJ8_hugeLength_7cf53_3 : decode cJ8_hugeLength_7cf53 3 = .ok (.istore_n 2, 1) := by decide +kernel
theorem dJ8_hugeLength_7cf53_4 : decode cJ8_hugeLength_7cf53 4 = .ok (.iload_n 2, 1) := by decide +kernel
theorem dJ8_hugeLength_7cf53_5 : decode cJ8_hugeLength_7cf53 5 = .ok (.ifCond .ge 44, 3) := by decide +kernel
theorem dJ8_hugeLength_7cf53_8 : decode cJ8_hugeLength_7cf53 8 = .ok (.new 204, 3) := by decide +kernel
theorem dJ8_hugeLength_7cf53_11 : decode cJ8_hugeLength_7cf53 11 = .ok (.dup, 1) := by decide +kernel
theorem dJ8_hugeLength_7cf53_12 : decode cJ8_hugeLength_7cf53 12 = .ok (.new 89, 3) := by decide +kernel
theorem dJ8_hugeLength_7cf53_15 : decode cJ8_hugeLength_7cf53 15 = .ok (.dup, 1) := by decide +kernel
theorem dJ8_hugeLength_7cf53_16 : decode cJ8_hugeLength_7cf53 16 = .ok (.invokespecial 91, 3) := by decide +kernel
theorem dJ8_hugeLength_7cf53_19 : decode cJ8_hugeLength_7cf53 19 = .ok (.ldc 206, 2) := by decide +kernel
theorem dJ8_hugeLength_7cf53_21 : decode cJ8_hugeLength_7cf53 21 = .ok (.invokevirtual 94, 3) := by decide +kernel
theorem dJ8_hugeLength_7cf53_24 : decode cJ8_hugeLength_7cf53 24 = .ok (.iload_n 0, 1) := by decide +kernel
theorem dJ8_hugeLength_7cf53_25 : decode cJ8_hugeLength_7cf53 25 = .ok (.invokevirtual 98, 3) := by decide +kernel
theorem dJ8_hugeLength_7cf53_28 : decode cJ8_hugeLength_7cf53 28 = .ok (.ldc 208, 2) := by decide +kernel
theorem dJ8_hugeLength_7cf53_30 : decode cJ8_hugeLength_7cf53 30 = .ok (.invokevirtual 94, 3) := by decide +kernel
theorem dJ8_hugeLength_7cf53_33 : decode cJ8_hugeLength_7cf53 33 = .ok (.iload_n 1, 1) := by decide +kernel
theorem dJ8_hugeLength_7cf53_34 : decode cJ8_hugeLength_7cf53 34 = .ok (.invokevirtual 98, 3) := by decide +kernel
theorem dJ8_hugeLength_7cf53_37 : decode cJ8_hugeLength_7cf53 37 = .ok (.ldc 210, 2) := by decide +kernel
theorem dJ8_hugeLength_7cf53_39 : decode cJ8_hugeLength_7cf53 39 = .ok (.invokevirtual 94, 3) := by decide +kernel
theorem dJ8_hugeLength_7cf53_42 : decode cJ8_hugeLength_7cf53 42 = .ok (.invokevirtual 101, 3) := by decide +kernel
theorem dJ8_hugeLength_7cf53_45 : decode cJ8_hugeLength_7cf53 45 = .ok (.invokespecial 212, 3) := by decide +kernel
theorem dJ8_hugeLength_7cf53_48 : decode cJ8_hugeLength_7cf53 48 = .ok (.athrow, 1) := by decide +kernel
theorem dJ8_hugeLength_7cf53_49 : decode cJ8_hugeLength_7cf53 49 = .ok (.iload_n 2, 1) := by decide +kernel
theorem dJ8_hugeLength_7cf53_50 : decode cJ8_hugeLength_7cf53 50 = .ok (.ldc 200, 2) := by decide +kernel
theorem dJ8_hugeLength_7cf53_52 : decode cJ8_hugeLength_7cf53 52 = .ok (.if_icmp .gt 6, 3) := by decide +kernel
theorem dJ8_hugeLength_7cf53_55 : decode cJ8_hugeLength_7cf53 55 = .ok (.ldc 200, 2) := by decide +kernel
theorem dJ8_hugeLength_7cf53_57 : decode cJ8_hugeLength_7cf53 57 = .ok (.ireturn, 1) := by decide +kernel
theorem dJ8_hugeLength_7cf53_58 : decode cJ8_hugeLength_7cf53 58 = .ok (.iload_n 2, 1) := by decide +kernel
theorem dJ8_hugeLength_7cf53_59 : decode cJ8_hugeLength_7cf53 59 = .ok (.ireturn, 1) := by decide +kernel
theorem dJ3_checkIndex_8e157_0 : decode cJ3_checkIndex_8e157 0 = .ok (.iload_n 0, 1) := by decide +kernel
theorem dJ3_checkIndex_8e157_1 : decode cJ3_checkIndex_8e157 1 = .ok (.ifCond .lt 8, 3) := by decide +kernel
theorem dJ3_checkIndex_8e157_4 : decode cJ3_checkIndex_8e157 4 = .ok (.iload_n 0, 1) := by decide +kernel
theorem dJ3_checkIndex_8e157_5 : decode cJ3_checkIndex_8e157 5 = .ok (.iload_n 1, 1) := by decide +kernel
theorem dJ3_checkIndex_8e157_6 : decode cJ3_checkIndex_8e157 6 = .ok (.if_icmp .lt 10, 3) := by decide +kernel
theorem dJ3_checkIndex_8e157_9 : decode cJ3_checkIndex_8e157 9 = .ok (.aload_n 2, 1) := by decide +kernel
theorem dJ3_checkIndex_8e157_10 : decode cJ3_checkIndex_8e157 10 = .ok (.iload_n 0, 1) := by decide +kernel
theorem dJ3_checkIndex_8e157_11 : decode cJ3_checkIndex_8e157 11 = .ok (.iload_n 1, 1) := by decide +kernel
theorem dJ3_checkIndex_8e157_12 : decode cJ3_checkIndex_8e157 12 = .ok (.invokestatic 95, 3) := by decide +kernel
theorem dJ3_checkIndex_8e157_15 : decode cJ3_checkIndex_8e157 15 = .ok (.athrow, 1) := by decide +kernel
theorem dJ3_checkIndex_8e157_16 : decode cJ3_checkIndex_8e157 16 = .ok (.iload_n 0, 1) := by decide +kernel
theorem dJ3_checkIndex_8e157_17 : decode cJ3_checkIndex_8e157 17 = .ok (.ireturn, 1) := by decide +kernel
theorem dL_block_0 : decode cL_block 0 = .ok (.aload 4, 2) := by decide +kernel
theorem dL_block_2 : decode cL_block 2 = .ok (.iconst 0, 1) := by decide +kernel
theorem dL_block_3 : decode cL_block 3 = .ok (.aload_n 0, 1) := by decide +kernel
theorem dL_block_4 : decode cL_block 4 = .ok (.iload_n 1, 1) := by decide +kernel
theorem dL_block_5 : decode cL_block 5 = .ok (.iload_n 2, 1) := by decide +kernel
theorem dL_block_6 : decode cL_block 6 = .ok (.iload_n 3, 1) := by decide +kernel
theorem dL_block_7 : decode cL_block 7 = .ok (.invokevirtual 7, 3) := by decide +kernel
theorem dL_block_10 : decode cL_block 10 = .ok (.ifCond .eq 7, 3) := by decide +kernel
theorem dL_block_13 : decode cL_block 13 = .ok (.lconst 1, 1) := by decide +kernel
theorem dL_block_14 : decode cL_block 14 = .ok (.goto 4, 3) := by decide +kernel
theorem dL_block_17 : decode cL_block 17 = .ok (.lconst 0, 1) := by decide +kernel
theorem dL_block_18 : decode cL_block 18 = .ok (.lastore, 1) := by decide +kernel
theorem dL_block_19 : decode cL_block 19 = .ok (.goto 7, 3) := by decide +kernel
theorem dL_block_22 : decode cL_block 22 = .ok (.astore 5, 2) := by decide +kernel
theorem dL_block_24 : decode cL_block 24 = .ok (.iconst 1, 1) := by decide +kernel
theorem dL_block_25 : decode cL_block 25 = .ok (.ireturn, 1) := by decide +kernel
theorem dL_block_26 : decode cL_block 26 = .ok (.iconst 0, 1) := by decide +kernel
theorem dL_block_27 : decode cL_block 27 = .ok (.ireturn, 1) := by decide +kernel
theorem dL_times_0 : decode cL_times 0 = .ok (.aload_n 0, 1) := by decide +kernel
theorem dL_times_1 : decode cL_times 1 = .ok (.iload_n 1, 1) := by decide +kernel
theorem dL_times_2 : decode cL_times 2 = .ok (.iload_n 2, 1) := by decide +kernel
theorem dL_times_3 : decode cL_times 3 = .ok (.iload_n 3, 1) := by decide +kernel
theorem dL_times_4 : decode cL_times 4 = .ok (.invokevirtual 15, 3) := by decide +kernel
theorem dL_times_7 : decode cL_times 7 = .ok (.goto 7, 3) := by decide +kernel
theorem dL_times_10 : decode cL_times 10 = .ok (.astore 4, 2) := by decide +kernel
theorem dL_times_12 : decode cL_times 12 = .ok (.iconst 1, 1) := by decide +kernel
theorem dL_times_13 : decode cL_times 13 = .ok (.ireturn, 1) := by decide +kernel
theorem dL_times_14 : decode cL_times 14 = .ok (.iconst 0, 1) := by decide +kernel
theorem dL_times_15 : decode cL_times 15 = .ok (.ireturn, 1) := by decide +kernel
theorem dL_dates_0 : decode cL_dates 0 = .ok (.aload_n 0, 1) := by decide +kernel
theorem dL_dates_1 : decode cL_dates 1 = .ok (.iload_n 1, 1) := by decide +kernel
theorem dL_dates_2 : decode cL_dates 2 = .ok (.iload_n 2, 1) := by decide +kernel
theorem dL_dates_3 : decode cL_dates 3 = .ok (.invokevirtual 21, 3) := by decide +kernel
theorem dL_dates_6 : decode cL_dates 6 = .ok (.goto 6, 3) := by decide +kernel
theorem dL_dates_9 : decode cL_dates 9 = .ok (.astore_n 3, 1) := by decide +kernel
theorem dL_dates_10 : decode cL_dates 10 = .ok (.iconst 1, 1) := by decide +kernel
theorem dL_dates_11 : decode cL_dates 11 = .ok (.ireturn, 1) := by decide +kernel
theorem dL_dates_12 : decode cL_dates 12 = .ok (.iconst 0, 1) := by decide +kernel
theorem dL_dates_13 : decode cL_dates 13 = .ok (.ireturn, 1) := by decide +kernel
theorem dL_sign_0 : decode cL_sign 0 = .ok (.aload 8, 2) := by decide +kernel
theorem dL_sign_2 : decode cL_sign 2 = .ok (.iconst 0, 1) := by decide +kernel
theorem dL_sign_3 : decode cL_sign 3 = .ok (.aload_n 0, 1) := by decide +kernel
theorem dL_sign_4 : decode cL_sign 4 = .ok (.iload_n 1, 1) := by decide +kernel
theorem dL_sign_5 : decode cL_sign 5 = .ok (.iload_n 2, 1) := by decide +kernel
theorem dL_sign_6 : decode cL_sign 6 = .ok (.iload_n 3, 1) := by decide +kernel
theorem dL_sign_7 : decode cL_sign 7 = .ok (.iload 4, 2) := by decide +kernel
theorem dL_sign_9 : decode cL_sign 9 = .ok (.iload 5, 2) := by decide +kernel
theorem dL_sign_11 : decode cL_sign 11 = .ok (.iload 6, 2) := by decide +kernel
theorem dL_sign_13 : decode cL_sign 13 = .ok (.iload 7, 2) := by decide +kernel
theorem dL_sign_15 : decode cL_sign 15 = .ok (.invokevirtual 25, 3) := by decide +kernel
theorem dL_sign_18 : decode cL_sign 18 = .ok (.i2l, 1) := by decide +kernel
theorem dL_sign_19 : decode cL_sign 19 = .ok (.lastore, 1) := by decide +kernel
theorem dL_sign_20 : decode cL_sign 20 = .ok (.goto 15, 3) := by decide +kernel
theorem dL_sign_23 : decode cL_sign 23 = .ok (.astore 9, 2) := by decide +kernel
theorem dL_sign_25 : decode cL_sign 25 = .ok (.iconst 1, 1) := by decide +kernel
theorem dL_sign_26 : decode cL_sign 26 = .ok (.ireturn, 1) := by decide +kernel
theorem dL_sign_27 : decode cL_sign 27 = .ok (.astore 9, 2) := by decide +kernel
theorem dL_sign_29 : decode cL_sign 29 = .ok (.iconst 2, 1) := by decide +kernel
theorem dL_sign_30 : decode cL_sign 30 = .ok (.ireturn, 1) := by decide +kernel
theorem dL_sign_31 : decode cL_sign 31 = .ok (.astore 9, 2) := by decide +kernel
theorem dL_sign_33 : decode cL_sign 33 = .ok (.iconst 3, 1) := by decide +kernel
theorem dL_sign_34 : decode cL_sign 34 = .ok (.ireturn, 1) := by decide +kernel
theorem dL_sign_35 : decode cL_sign 35 = .ok (.iconst 0, 1) := by decide +kernel
theorem dL_sign_36 : decode cL_sign 36 = .ok (.ireturn, 1) := by decide +kernel
theorem dL_takeDown_0 : decode cL_takeDown 0 = .ok (.aload_n 0, 1) := by decide +kernel
theorem dL_takeDown_1 : decode cL_takeDown 1 = .ok (.iload_n 1, 1) := by decide +kernel
theorem dL_takeDown_2 : decode cL_takeDown 2 = .ok (.invokevirtual 31, 3) := by decide +kernel
theorem dL_takeDown_5 : decode cL_takeDown 5 = .ok (.goto 9, 3) := by decide +kernel
theorem dL_takeDown_8 : decode cL_takeDown 8 = .ok (.astore_n 2, 1) := by decide +kernel
theorem dL_takeDown_9 : decode cL_takeDown 9 = .ok (.iconst 1, 1) := by decide +kernel
theorem dL_takeDown_10 : decode cL_takeDown 10 = .ok (.ireturn, 1) := by decide +kernel
theorem dL_takeDown_11 : decode cL_takeDown 11 = .ok (.astore_n 2, 1) := by decide +kernel
theorem dL_takeDown_12 : decode cL_takeDown 12 = .ok (.iconst 2, 1) := by decide +kernel
theorem dL_takeDown_13 : decode cL_takeDown 13 = .ok (.ireturn, 1) := by decide +kernel
theorem dL_takeDown_14 : decode cL_takeDown 14 = .ok (.iconst 0, 1) := by decide +kernel
theorem dL_takeDown_15 : decode cL_takeDown 15 = .ok (.ireturn, 1) := by decide +kernel
theorem dL_rule_0 : decode cL_rule 0 = .ok (.aload 4, 2) := by decide +kernel
theorem dL_rule_2 : decode cL_rule 2 = .ok (.iconst 0, 1) := by decide +kernel
theorem dL_rule_3 : decode cL_rule 3 = .ok (.aload_n 0, 1) := by decide +kernel
theorem dL_rule_4 : decode cL_rule 4 = .ok (.iload_n 1, 1) := by decide +kernel
theorem dL_rule_5 : decode cL_rule 5 = .ok (.iload_n 2, 1) := by decide +kernel
theorem dL_rule_6 : decode cL_rule 6 = .ok (.iload_n 3, 1) := by decide +kernel
theorem dL_rule_7 : decode cL_rule 7 = .ok (.invokevirtual 35, 3) := by decide +kernel
theorem dL_rule_10 : decode cL_rule 10 = .ok (.i2l, 1) := by decide +kernel
theorem dL_rule_11 : decode cL_rule 11 = .ok (.lastore, 1) := by decide +kernel
theorem dL_rule_12 : decode cL_rule 12 = .ok (.goto 11, 3) := by decide +kernel
theorem dL_rule_15 : decode cL_rule 15 = .ok (.astore 5, 2) := by decide +kernel
theorem dL_rule_17 : decode cL_rule 17 = .ok (.iconst 1, 1) := by decide +kernel
theorem dL_rule_18 : decode cL_rule 18 = .ok (.ireturn, 1) := by decide +kernel
theorem dL_rule_19 : decode cL_rule 19 = .ok (.astore 5, 2) := by decide +kernel
theorem dL_rule_21 : decode cL_rule 21 = .ok (.iconst 2, 1) := by decide +kernel
theorem dL_rule_22 : decode cL_rule 22 = .ok (.ireturn, 1) := by decide +kernel
theorem dL_rule_23 : decode cL_rule 23 = .ok (.iconst 0, 1) := by decide +kernel
theorem dL_rule_24 : decode cL_rule 24 = .ok (.ireturn, 1) := by decide +kernel
theorem dL_ruleAnew_0 : decode cL_ruleAnew 0 = .ok (.aload 4, 2) := by decide +kernel
theorem dL_ruleAnew_2 : decode cL_ruleAnew 2 = .ok (.iconst 0, 1) := by decide +kernel
theorem dL_ruleAnew_3 : decode cL_ruleAnew 3 = .ok (.aload_n 0, 1) := by decide +kernel
theorem dL_ruleAnew_4 : decode cL_ruleAnew 4 = .ok (.iload_n 1, 1) := by decide +kernel
theorem dL_ruleAnew_5 : decode cL_ruleAnew 5 = .ok (.iload_n 2, 1) := by decide +kernel
theorem dL_ruleAnew_6 : decode cL_ruleAnew 6 = .ok (.iload_n 3, 1) := by decide +kernel
theorem dL_ruleAnew_7 : decode cL_ruleAnew 7 = .ok (.invokevirtual 39, 3) := by decide +kernel
theorem dL_ruleAnew_10 : decode cL_ruleAnew 10 = .ok (.i2l, 1) := by decide +kernel
theorem dL_ruleAnew_11 : decode cL_ruleAnew 11 = .ok (.lastore, 1) := by decide +kernel
theorem dL_ruleAnew_12 : decode cL_ruleAnew 12 = .ok (.goto 11, 3) := by decide +kernel
theorem dL_ruleAnew_15 : decode cL_ruleAnew 15 = .ok (.astore 5, 2) := by decide +kernel
theorem dL_ruleAnew_17 : decode cL_ruleAnew 17 = .ok (.iconst 1, 1) := by decide +kernel
theorem dL_ruleAnew_18 : decode cL_ruleAnew 18 = .ok (.ireturn, 1) := by decide +kernel
theorem dL_ruleAnew_19 : decode cL_ruleAnew 19 = .ok (.astore 5, 2) := by decide +kernel
theorem dL_ruleAnew_21 : decode cL_ruleAnew 21 = .ok (.iconst 2, 1) := by decide +kernel
theorem dL_ruleAnew_22 : decode cL_ruleAnew 22 = .ok (.ireturn, 1) := by decide +kernel
theorem dL_ruleAnew_23 : decode cL_ruleAnew 23 = .ok (.iconst 0, 1) := by decide +kernel
theorem dL_ruleAnew_24 : decode cL_ruleAnew 24 = .ok (.ireturn, 1) := by decide +kernel
theorem dL_car_0 : decode cL_car 0 = .ok (.aload_n 3, 1) := by decide +kernel
theorem dL_car_1 : decode cL_car 1 = .ok (.iconst 0, 1) := by decide +kernel
theorem dL_car_2 : decode cL_car 2 = .ok (.aload_n 0, 1) := by decide +kernel
theorem dL_car_3 : decode cL_car 3 = .ok (.iload_n 1, 1) := by decide +kernel
theorem dL_car_4 : decode cL_car 4 = .ok (.iload_n 2, 1) := by decide +kernel
theorem dL_car_5 : decode cL_car 5 = .ok (.invokevirtual 42, 3) := by decide +kernel
theorem dL_car_8 : decode cL_car 8 = .ok (.i2l, 1) := by decide +kernel
theorem dL_car_9 : decode cL_car 9 = .ok (.lastore, 1) := by decide +kernel
theorem dL_car_10 : decode cL_car 10 = .ok (.goto 11, 3) := by decide +kernel
theorem dL_car_13 : decode cL_car 13 = .ok (.astore 4, 2) := by decide +kernel
theorem dL_car_15 : decode cL_car 15 = .ok (.iconst 1, 1) := by decide +kernel
theorem dL_car_16 : decode cL_car 16 = .ok (.ireturn, 1) := by decide +kernel
theorem dL_car_17 : decode cL_car 17 = .ok (.astore 4, 2) := by decide +kernel
theorem dL_car_19 : decode cL_car 19 = .ok (.iconst 2, 1) := by decide +kernel
theorem dL_car_20 : decode cL_car 20 = .ok (.ireturn, 1) := by decide +kernel
theorem dL_car_21 : decode cL_car 21 = .ok (.iconst 0, 1) := by decide +kernel
theorem dL_car_22 : decode cL_car 22 = .ok (.ireturn, 1) := by decide +kernel
theorem dL_permit_0 : decode cL_permit 0 = .ok (.aload 6, 2) := by decide +kernel
theorem dL_permit_2 : decode cL_permit 2 = .ok (.iconst 0, 1) := by decide +kernel
theorem dL_permit_3 : decode cL_permit 3 = .ok (.aload_n 0, 1) := by decide +kernel
theorem dL_permit_4 : decode cL_permit 4 = .ok (.iload_n 1, 1) := by decide +kernel
theorem dL_permit_5 : decode cL_permit 5 = .ok (.iload_n 2, 1) := by decide +kernel
theorem dL_permit_6 : decode cL_permit 6 = .ok (.iload_n 3, 1) := by decide +kernel
theorem dL_permit_7 : decode cL_permit 7 = .ok (.iload 4, 2) := by decide +kernel
theorem dL_permit_9 : decode cL_permit 9 = .ok (.iload 5, 2) := by decide +kernel
theorem dL_permit_11 : decode cL_permit 11 = .ok (.invokevirtual 46, 3) := by decide +kernel
theorem dL_permit_14 : decode cL_permit 14 = .ok (.i2l, 1) := by decide +kernel
theorem dL_permit_15 : decode cL_permit 15 = .ok (.lastore, 1) := by decide +kernel
theorem dL_permit_16 : decode cL_permit 16 = .ok (.goto 15, 3) := by decide +kernel
theorem dL_permit_19 : decode cL_permit 19 = .ok (.astore 7, 2) := by decide +kernel
theorem dL_permit_21 : decode cL_permit 21 = .ok (.iconst 1, 1) := by decide +kernel
theorem dL_permit_22 : decode cL_permit 22 = .ok (.ireturn, 1) := by decide +kernel
theorem dL_permit_23 : decode cL_permit 23 = .ok (.astore 7, 2) := by decide +kernel
theorem dL_permit_25 : decode cL_permit 25 = .ok (.iconst 2, 1) := by decide +kernel
theorem dL_permit_26 : decode cL_permit 26 = .ok (.ireturn, 1) := by decide +kernel
theorem dL_permit_27 : decode cL_permit 27 = .ok (.astore 7, 2) := by decide +kernel
theorem dL_permit_29 : decode cL_permit 29 = .ok (.iconst 3, 1) := by decide +kernel
theorem dL_permit_30 : decode cL_permit 30 = .ok (.ireturn, 1) := by decide +kernel
theorem dL_permit_31 : decode cL_permit 31 = .ok (.iconst 0, 1) := by decide +kernel
theorem dL_permit_32 : decode cL_permit 32 = .ok (.ireturn, 1) := by decide +kernel
theorem dL_hand_0 : decode cL_hand 0 = .ok (.aload_n 3, 1) := by decide +kernel
theorem dL_hand_1 : decode cL_hand 1 = .ok (.iconst 0, 1) := by decide +kernel
theorem dL_hand_2 : decode cL_hand 2 = .ok (.aload_n 0, 1) := by decide +kernel
theorem dL_hand_3 : decode cL_hand 3 = .ok (.iload_n 1, 1) := by decide +kernel
theorem dL_hand_4 : decode cL_hand 4 = .ok (.iload_n 2, 1) := by decide +kernel
theorem dL_hand_5 : decode cL_hand 5 = .ok (.invokevirtual 50, 3) := by decide +kernel
theorem dL_hand_8 : decode cL_hand 8 = .ok (.i2l, 1) := by decide +kernel
theorem dL_hand_9 : decode cL_hand 9 = .ok (.lastore, 1) := by decide +kernel
theorem dL_hand_10 : decode cL_hand 10 = .ok (.goto 7, 3) := by decide +kernel
theorem dL_hand_13 : decode cL_hand 13 = .ok (.astore 4, 2) := by decide +kernel
theorem dL_hand_15 : decode cL_hand 15 = .ok (.iconst 1, 1) := by decide +kernel
theorem dL_hand_16 : decode cL_hand 16 = .ok (.ireturn, 1) := by decide +kernel
theorem dL_hand_17 : decode cL_hand 17 = .ok (.iconst 0, 1) := by decide +kernel
theorem dL_hand_18 : decode cL_hand 18 = .ok (.ireturn, 1) := by decide +kernel
theorem dL_countsAs_0 : decode cL_countsAs 0 = .ok (.aload_n 3, 1) := by decide +kernel
theorem dL_countsAs_1 : decode cL_countsAs 1 = .ok (.iconst 0, 1) := by decide +kernel
theorem dL_countsAs_2 : decode cL_countsAs 2 = .ok (.aload_n 0, 1) := by decide +kernel
theorem dL_countsAs_3 : decode cL_countsAs 3 = .ok (.iload_n 1, 1) := by decide +kernel
theorem dL_countsAs_4 : decode cL_countsAs 4 = .ok (.iload_n 2, 1) := by decide +kernel
theorem dL_countsAs_5 : decode cL_countsAs 5 = .ok (.invokevirtual 53, 3) := by decide +kernel
theorem dL_countsAs_8 : decode cL_countsAs 8 = .ok (.i2l, 1) := by decide +kernel
theorem dL_countsAs_9 : decode cL_countsAs 9 = .ok (.lastore, 1) := by decide +kernel
theorem dL_countsAs_10 : decode cL_countsAs 10 = .ok (.goto 7, 3) := by decide +kernel
theorem dL_countsAs_13 : decode cL_countsAs 13 = .ok (.astore 4, 2) := by decide +kernel
theorem dL_countsAs_15 : decode cL_countsAs 15 = .ok (.iconst 1, 1) := by decide +kernel
theorem dL_countsAs_16 : decode cL_countsAs 16 = .ok (.ireturn, 1) := by decide +kernel
theorem dL_countsAs_17 : decode cL_countsAs 17 = .ok (.iconst 0, 1) := by decide +kernel
theorem dL_countsAs_18 : decode cL_countsAs 18 = .ok (.ireturn, 1) := by decide +kernel
theorem dL_park_0 : decode cL_park 0 = .ok (.aload_n 0, 1) := by decide +kernel
theorem dL_park_1 : decode cL_park 1 = .ok (.iload_n 1, 1) := by decide +kernel
theorem dL_park_2 : decode cL_park 2 = .ok (.iload_n 2, 1) := by decide +kernel
theorem dL_park_3 : decode cL_park 3 = .ok (.iload_n 3, 1) := by decide +kernel
theorem dL_park_4 : decode cL_park 4 = .ok (.invokevirtual 56, 3) := by decide +kernel
theorem dL_park_7 : decode cL_park 7 = .ok (.goto 11, 3) := by decide +kernel
theorem dL_park_10 : decode cL_park 10 = .ok (.astore 4, 2) := by decide +kernel
theorem dL_park_12 : decode cL_park 12 = .ok (.iconst 1, 1) := by decide +kernel
theorem dL_park_13 : decode cL_park 13 = .ok (.ireturn, 1) := by decide +kernel
theorem dL_park_14 : decode cL_park 14 = .ok (.astore 4, 2) := by decide +kernel
theorem dL_park_16 : decode cL_park 16 = .ok (.iconst 2, 1) := by decide +kernel
theorem dL_park_17 : decode cL_park 17 = .ok (.ireturn, 1) := by decide +kernel
theorem dL_park_18 : decode cL_park 18 = .ok (.iconst 0, 1) := by decide +kernel
theorem dL_park_19 : decode cL_park 19 = .ok (.ireturn, 1) := by decide +kernel
theorem dL_leave_0 : decode cL_leave 0 = .ok (.aload_n 2, 1) := by decide +kernel
theorem dL_leave_1 : decode cL_leave 1 = .ok (.iconst 0, 1) := by decide +kernel
theorem dL_leave_2 : decode cL_leave 2 = .ok (.aload_n 0, 1) := by decide +kernel
theorem dL_leave_3 : decode cL_leave 3 = .ok (.iload_n 1, 1) := by decide +kernel
theorem dL_leave_4 : decode cL_leave 4 = .ok (.invokevirtual 59, 3) := by decide +kernel
theorem dL_leave_7 : decode cL_leave 7 = .ok (.i2l, 1) := by decide +kernel
theorem dL_leave_8 : decode cL_leave 8 = .ok (.lastore, 1) := by decide +kernel
theorem dL_leave_9 : decode cL_leave 9 = .ok (.goto 9, 3) := by decide +kernel
theorem dL_leave_12 : decode cL_leave 12 = .ok (.astore_n 3, 1) := by decide +kernel
theorem dL_leave_13 : decode cL_leave 13 = .ok (.iconst 1, 1) := by decide +kernel
theorem dL_leave_14 : decode cL_leave 14 = .ok (.ireturn, 1) := by decide +kernel
theorem dL_leave_15 : decode cL_leave 15 = .ok (.astore_n 3, 1) := by decide +kernel
theorem dL_leave_16 : decode cL_leave 16 = .ok (.iconst 2, 1) := by decide +kernel
theorem dL_leave_17 : decode cL_leave 17 = .ok (.ireturn, 1) := by decide +kernel
theorem dL_leave_18 : decode cL_leave 18 = .ok (.iconst 0, 1) := by decide +kernel
theorem dL_leave_19 : decode cL_leave 19 = .ok (.ireturn, 1) := by decide +kernel
theorem dL_gap_0 : decode cL_gap 0 = .ok (.aload_n 3, 1) := by decide +kernel
theorem dL_gap_1 : decode cL_gap 1 = .ok (.iconst 0, 1) := by decide +kernel
theorem dL_gap_2 : decode cL_gap 2 = .ok (.aload_n 0, 1) := by decide +kernel
theorem dL_gap_3 : decode cL_gap 3 = .ok (.iload_n 1, 1) := by decide +kernel
theorem dL_gap_4 : decode cL_gap 4 = .ok (.iload_n 2, 1) := by decide +kernel
theorem dL_gap_5 : decode cL_gap 5 = .ok (.invokevirtual 63, 3) := by decide +kernel
theorem dL_gap_8 : decode cL_gap 8 = .ok (.i2l, 1) := by decide +kernel
theorem dL_gap_9 : decode cL_gap 9 = .ok (.lastore, 1) := by decide +kernel
theorem dL_gap_10 : decode cL_gap 10 = .ok (.goto 11, 3) := by decide +kernel
theorem dL_gap_13 : decode cL_gap 13 = .ok (.astore 4, 2) := by decide +kernel
theorem dL_gap_15 : decode cL_gap 15 = .ok (.iconst 1, 1) := by decide +kernel
theorem dL_gap_16 : decode cL_gap 16 = .ok (.ireturn, 1) := by decide +kernel
theorem dL_gap_17 : decode cL_gap 17 = .ok (.astore 4, 2) := by decide +kernel
theorem dL_gap_19 : decode cL_gap 19 = .ok (.iconst 2, 1) := by decide +kernel
theorem dL_gap_20 : decode cL_gap 20 = .ok (.ireturn, 1) := by decide +kernel
theorem dL_gap_21 : decode cL_gap 21 = .ok (.iconst 0, 1) := by decide +kernel
theorem dL_gap_22 : decode cL_gap 22 = .ok (.ireturn, 1) := by decide +kernel
theorem dL_pay_0 : decode cL_pay 0 = .ok (.aload 5, 2) := by decide +kernel
theorem dL_pay_2 : decode cL_pay 2 = .ok (.iconst 0, 1) := by decide +kernel
theorem dL_pay_3 : decode cL_pay 3 = .ok (.aload_n 0, 1) := by decide +kernel
theorem dL_pay_4 : decode cL_pay 4 = .ok (.iload_n 1, 1) := by decide +kernel
theorem dL_pay_5 : decode cL_pay 5 = .ok (.iload_n 2, 1) := by decide +kernel
theorem dL_pay_6 : decode cL_pay 6 = .ok (.iload_n 3, 1) := by decide +kernel
theorem dL_pay_7 : decode cL_pay 7 = .ok (.iload 4, 2) := by decide +kernel
theorem dL_pay_9 : decode cL_pay 9 = .ok (.invokevirtual 66, 3) := by decide +kernel
theorem dL_pay_12 : decode cL_pay 12 = .ok (.i2l, 1) := by decide +kernel
theorem dL_pay_13 : decode cL_pay 13 = .ok (.lastore, 1) := by decide +kernel
theorem dL_pay_14 : decode cL_pay 14 = .ok (.goto 15, 3) := by decide +kernel
theorem dL_pay_17 : decode cL_pay 17 = .ok (.astore 6, 2) := by decide +kernel
theorem dL_pay_19 : decode cL_pay 19 = .ok (.iconst 1, 1) := by decide +kernel
theorem dL_pay_20 : decode cL_pay 20 = .ok (.ireturn, 1) := by decide +kernel
theorem dL_pay_21 : decode cL_pay 21 = .ok (.astore 6, 2) := by decide +kernel
theorem dL_pay_23 : decode cL_pay 23 = .ok (.iconst 2, 1) := by decide +kernel
theorem dL_pay_24 : decode cL_pay 24 = .ok (.ireturn, 1) := by decide +kernel
theorem dL_pay_25 : decode cL_pay 25 = .ok (.astore 6, 2) := by decide +kernel
theorem dL_pay_27 : decode cL_pay 27 = .ok (.iconst 3, 1) := by decide +kernel
theorem dL_pay_28 : decode cL_pay 28 = .ok (.ireturn, 1) := by decide +kernel
theorem dL_pay_29 : decode cL_pay 29 = .ok (.iconst 0, 1) := by decide +kernel
theorem dL_pay_30 : decode cL_pay 30 = .ok (.ireturn, 1) := by decide +kernel
theorem dL_judge_0 : decode cL_judge 0 = .ok (.aload_n 2, 1) := by decide +kernel
theorem dL_judge_1 : decode cL_judge 1 = .ok (.iconst 0, 1) := by decide +kernel
theorem dL_judge_2 : decode cL_judge 2 = .ok (.aload_n 0, 1) := by decide +kernel
theorem dL_judge_3 : decode cL_judge 3 = .ok (.iload_n 1, 1) := by decide +kernel
theorem dL_judge_4 : decode cL_judge 4 = .ok (.invokevirtual 70, 3) := by decide +kernel
theorem dL_judge_7 : decode cL_judge 7 = .ok (.i2l, 1) := by decide +kernel
theorem dL_judge_8 : decode cL_judge 8 = .ok (.lastore, 1) := by decide +kernel
theorem dL_judge_9 : decode cL_judge 9 = .ok (.goto 6, 3) := by decide +kernel
theorem dL_judge_12 : decode cL_judge 12 = .ok (.astore_n 3, 1) := by decide +kernel
theorem dL_judge_13 : decode cL_judge 13 = .ok (.iconst 1, 1) := by decide +kernel
theorem dL_judge_14 : decode cL_judge 14 = .ok (.ireturn, 1) := by decide +kernel
theorem dL_judge_15 : decode cL_judge 15 = .ok (.iconst 0, 1) := by decide +kernel
theorem dL_judge_16 : decode cL_judge 16 = .ok (.ireturn, 1) := by decide +kernel
theorem dL_look_0 : decode cL_look 0 = .ok (.aload_n 2, 1) := by decide +kernel
theorem dL_look_1 : decode cL_look 1 = .ok (.iconst 0, 1) := by decide +kernel
theorem dL_look_2 : decode cL_look 2 = .ok (.aload_n 0, 1) := by decide +kernel
theorem dL_look_3 : decode cL_look 3 = .ok (.iload_n 1, 1) := by decide +kernel
theorem dL_look_4 : decode cL_look 4 = .ok (.invokevirtual 73, 3) := by decide +kernel
theorem dL_look_7 : decode cL_look 7 = .ok (.i2l, 1) := by decide +kernel
theorem dL_look_8 : decode cL_look 8 = .ok (.lastore, 1) := by decide +kernel
theorem dL_look_9 : decode cL_look 9 = .ok (.goto 6, 3) := by decide +kernel
theorem dL_look_12 : decode cL_look 12 = .ok (.astore_n 3, 1) := by decide +kernel
theorem dL_look_13 : decode cL_look 13 = .ok (.iconst 1, 1) := by decide +kernel
theorem dL_look_14 : decode cL_look 14 = .ok (.ireturn, 1) := by decide +kernel
theorem dL_look_15 : decode cL_look 15 = .ok (.iconst 0, 1) := by decide +kernel
theorem dL_look_16 : decode cL_look 16 = .ok (.ireturn, 1) := by decide +kernel
theorem dL_appeal_0 : decode cL_appeal 0 = .ok (.aload_n 2, 1) := by decide +kernel
theorem dL_appeal_1 : decode cL_appeal 1 = .ok (.iconst 0, 1) := by decide +kernel
theorem dL_appeal_2 : decode cL_appeal 2 = .ok (.aload_n 0, 1) := by decide +kernel
theorem dL_appeal_3 : decode cL_appeal 3 = .ok (.iload_n 1, 1) := by decide +kernel
theorem dL_appeal_4 : decode cL_appeal 4 = .ok (.invokevirtual 76, 3) := by decide +kernel
theorem dL_appeal_7 : decode cL_appeal 7 = .ok (.ifCond .eq 7, 3) := by decide +kernel
theorem dL_appeal_10 : decode cL_appeal 10 = .ok (.lconst 1, 1) := by decide +kernel
theorem dL_appeal_11 : decode cL_appeal 11 = .ok (.goto 4, 3) := by decide +kernel
theorem dL_appeal_14 : decode cL_appeal 14 = .ok (.lconst 0, 1) := by decide +kernel
theorem dL_appeal_15 : decode cL_appeal 15 = .ok (.lastore, 1) := by decide +kernel
theorem dL_appeal_16 : decode cL_appeal 16 = .ok (.goto 9, 3) := by decide +kernel
theorem dL_appeal_19 : decode cL_appeal 19 = .ok (.astore_n 3, 1) := by decide +kernel
theorem dL_appeal_20 : decode cL_appeal 20 = .ok (.iconst 1, 1) := by decide +kernel
theorem dL_appeal_21 : decode cL_appeal 21 = .ok (.ireturn, 1) := by decide +kernel
theorem dL_appeal_22 : decode cL_appeal 22 = .ok (.astore_n 3, 1) := by decide +kernel
theorem dL_appeal_23 : decode cL_appeal 23 = .ok (.iconst 2, 1) := by decide +kernel
theorem dL_appeal_24 : decode cL_appeal 24 = .ok (.ireturn, 1) := by decide +kernel
theorem dL_appeal_25 : decode cL_appeal 25 = .ok (.iconst 0, 1) := by decide +kernel
theorem dL_appeal_26 : decode cL_appeal 26 = .ok (.ireturn, 1) := by decide +kernel
theorem dL_payFine_0 : decode cL_payFine 0 = .ok (.aload_n 2, 1) := by decide +kernel
theorem dL_payFine_1 : decode cL_payFine 1 = .ok (.iconst 0, 1) := by decide +kernel
theorem dL_payFine_2 : decode cL_payFine 2 = .ok (.aload_n 0, 1) := by decide +kernel
theorem dL_payFine_3 : decode cL_payFine 3 = .ok (.iload_n 1, 1) := by decide +kernel
theorem dL_payFine_4 : decode cL_payFine 4 = .ok (.invokevirtual 80, 3) := by decide +kernel
theorem dL_payFine_7 : decode cL_payFine 7 = .ok (.i2l, 1) := by decide +kernel
theorem dL_payFine_8 : decode cL_payFine 8 = .ok (.lastore, 1) := by decide +kernel
theorem dL_payFine_9 : decode cL_payFine 9 = .ok (.goto 9, 3) := by decide +kernel
theorem dL_payFine_12 : decode cL_payFine 12 = .ok (.astore_n 3, 1) := by decide +kernel
theorem dL_payFine_13 : decode cL_payFine 13 = .ok (.iconst 1, 1) := by decide +kernel
theorem dL_payFine_14 : decode cL_payFine 14 = .ok (.ireturn, 1) := by decide +kernel
theorem dL_payFine_15 : decode cL_payFine 15 = .ok (.astore_n 3, 1) := by decide +kernel
theorem dL_payFine_16 : decode cL_payFine 16 = .ok (.iconst 2, 1) := by decide +kernel
theorem dL_payFine_17 : decode cL_payFine 17 = .ok (.ireturn, 1) := by decide +kernel
theorem dL_payFine_18 : decode cL_payFine 18 = .ok (.iconst 0, 1) := by decide +kernel
theorem dL_payFine_19 : decode cL_payFine 19 = .ok (.ireturn, 1) := by decide +kernel
theorem dL_fine_0 : decode cL_fine 0 = .ok (.aload_n 3, 1) := by decide +kernel
theorem dL_fine_1 : decode cL_fine 1 = .ok (.iconst 0, 1) := by decide +kernel
theorem dL_fine_2 : decode cL_fine 2 = .ok (.aload_n 0, 1) := by decide +kernel
theorem dL_fine_3 : decode cL_fine 3 = .ok (.iload_n 1, 1) := by decide +kernel
theorem dL_fine_4 : decode cL_fine 4 = .ok (.iload_n 2, 1) := by decide +kernel
theorem dL_fine_5 : decode cL_fine 5 = .ok (.invokevirtual 83, 3) := by decide +kernel
theorem dL_fine_8 : decode cL_fine 8 = .ok (.i2l, 1) := by decide +kernel
theorem dL_fine_9 : decode cL_fine 9 = .ok (.lastore, 1) := by decide +kernel
theorem dL_fine_10 : decode cL_fine 10 = .ok (.goto 11, 3) := by decide +kernel
theorem dL_fine_13 : decode cL_fine 13 = .ok (.astore 4, 2) := by decide +kernel
theorem dL_fine_15 : decode cL_fine 15 = .ok (.iconst 1, 1) := by decide +kernel
theorem dL_fine_16 : decode cL_fine 16 = .ok (.ireturn, 1) := by decide +kernel
theorem dL_fine_17 : decode cL_fine 17 = .ok (.astore 4, 2) := by decide +kernel
theorem dL_fine_19 : decode cL_fine 19 = .ok (.iconst 2, 1) := by decide +kernel
theorem dL_fine_20 : decode cL_fine 20 = .ok (.ireturn, 1) := by decide +kernel
theorem dL_fine_21 : decode cL_fine 21 = .ok (.iconst 0, 1) := by decide +kernel
theorem dL_fine_22 : decode cL_fine 22 = .ok (.ireturn, 1) := by decide +kernel
theorem dL_debt_0 : decode cL_debt 0 = .ok (.aload_n 2, 1) := by decide +kernel
theorem dL_debt_1 : decode cL_debt 1 = .ok (.iconst 0, 1) := by decide +kernel
theorem dL_debt_2 : decode cL_debt 2 = .ok (.aload_n 0, 1) := by decide +kernel
theorem dL_debt_3 : decode cL_debt 3 = .ok (.iload_n 1, 1) := by decide +kernel
theorem dL_debt_4 : decode cL_debt 4 = .ok (.invokevirtual 86, 3) := by decide +kernel
theorem dL_debt_7 : decode cL_debt 7 = .ok (.i2l, 1) := by decide +kernel
theorem dL_debt_8 : decode cL_debt 8 = .ok (.lastore, 1) := by decide +kernel
theorem dL_debt_9 : decode cL_debt 9 = .ok (.goto 6, 3) := by decide +kernel
theorem dL_debt_12 : decode cL_debt 12 = .ok (.astore_n 3, 1) := by decide +kernel
theorem dL_debt_13 : decode cL_debt 13 = .ok (.iconst 1, 1) := by decide +kernel
theorem dL_debt_14 : decode cL_debt 14 = .ok (.ireturn, 1) := by decide +kernel
theorem dL_debt_15 : decode cL_debt 15 = .ok (.iconst 0, 1) := by decide +kernel
theorem dL_debt_16 : decode cL_debt 16 = .ok (.ireturn, 1) := by decide +kernel
theorem dL_tow_0 : decode cL_tow 0 = .ok (.aload_n 2, 1) := by decide +kernel
theorem dL_tow_1 : decode cL_tow 1 = .ok (.iconst 0, 1) := by decide +kernel
theorem dL_tow_2 : decode cL_tow 2 = .ok (.aload_n 0, 1) := by decide +kernel
theorem dL_tow_3 : decode cL_tow 3 = .ok (.iload_n 1, 1) := by decide +kernel
theorem dL_tow_4 : decode cL_tow 4 = .ok (.invokevirtual 89, 3) := by decide +kernel
theorem dL_tow_7 : decode cL_tow 7 = .ok (.i2l, 1) := by decide +kernel
theorem dL_tow_8 : decode cL_tow 8 = .ok (.lastore, 1) := by decide +kernel
theorem dL_tow_9 : decode cL_tow 9 = .ok (.goto 9, 3) := by decide +kernel
theorem dL_tow_12 : decode cL_tow 12 = .ok (.astore_n 3, 1) := by decide +kernel
theorem dL_tow_13 : decode cL_tow 13 = .ok (.iconst 1, 1) := by decide +kernel
theorem dL_tow_14 : decode cL_tow 14 = .ok (.ireturn, 1) := by decide +kernel
theorem dL_tow_15 : decode cL_tow 15 = .ok (.astore_n 3, 1) := by decide +kernel
theorem dL_tow_16 : decode cL_tow 16 = .ok (.iconst 2, 1) := by decide +kernel
theorem dL_tow_17 : decode cL_tow 17 = .ok (.ireturn, 1) := by decide +kernel
theorem dL_tow_18 : decode cL_tow 18 = .ok (.iconst 0, 1) := by decide +kernel
theorem dL_tow_19 : decode cL_tow 19 = .ok (.ireturn, 1) := by decide +kernel
theorem dL_streetIs_0 : decode cL_streetIs 0 = .ok (.aload_n 3, 1) := by decide +kernel
theorem dL_streetIs_1 : decode cL_streetIs 1 = .ok (.iconst 0, 1) := by decide +kernel
theorem dL_streetIs_2 : decode cL_streetIs 2 = .ok (.aload_n 0, 1) := by decide +kernel
theorem dL_streetIs_3 : decode cL_streetIs 3 = .ok (.iload_n 1, 1) := by decide +kernel
theorem dL_streetIs_4 : decode cL_streetIs 4 = .ok (.iload_n 2, 1) := by decide +kernel
theorem dL_streetIs_5 : decode cL_streetIs 5 = .ok (.invokevirtual 92, 3) := by decide +kernel
theorem dL_streetIs_8 : decode cL_streetIs 8 = .ok (.i2l, 1) := by decide +kernel
theorem dL_streetIs_9 : decode cL_streetIs 9 = .ok (.lastore, 1) := by decide +kernel
theorem dL_streetIs_10 : decode cL_streetIs 10 = .ok (.goto 11, 3) := by decide +kernel
theorem dL_streetIs_13 : decode cL_streetIs 13 = .ok (.astore 4, 2) := by decide +kernel
theorem dL_streetIs_15 : decode cL_streetIs 15 = .ok (.iconst 1, 1) := by decide +kernel
theorem dL_streetIs_16 : decode cL_streetIs 16 = .ok (.ireturn, 1) := by decide +kernel
theorem dL_streetIs_17 : decode cL_streetIs 17 = .ok (.astore 4, 2) := by decide +kernel
theorem dL_streetIs_19 : decode cL_streetIs 19 = .ok (.iconst 2, 1) := by decide +kernel
theorem dL_streetIs_20 : decode cL_streetIs 20 = .ok (.ireturn, 1) := by decide +kernel
theorem dL_streetIs_21 : decode cL_streetIs 21 = .ok (.iconst 0, 1) := by decide +kernel
theorem dL_streetIs_22 : decode cL_streetIs 22 = .ok (.ireturn, 1) := by decide +kernel
theorem dL_pass_0 : decode cL_pass 0 = .ok (.aload_n 2, 1) := by decide +kernel
theorem dL_pass_1 : decode cL_pass 1 = .ok (.iconst 0, 1) := by decide +kernel
theorem dL_pass_2 : decode cL_pass 2 = .ok (.aload_n 0, 1) := by decide +kernel
theorem dL_pass_3 : decode cL_pass 3 = .ok (.iload_n 1, 1) := by decide +kernel
theorem dL_pass_4 : decode cL_pass 4 = .ok (.invokevirtual 95, 3) := by decide +kernel
theorem dL_pass_7 : decode cL_pass 7 = .ok (.i2l, 1) := by decide +kernel
theorem dL_pass_8 : decode cL_pass 8 = .ok (.lastore, 1) := by decide +kernel
theorem dL_pass_9 : decode cL_pass 9 = .ok (.goto 9, 3) := by decide +kernel
theorem dL_pass_12 : decode cL_pass 12 = .ok (.astore_n 3, 1) := by decide +kernel
theorem dL_pass_13 : decode cL_pass 13 = .ok (.iconst 1, 1) := by decide +kernel
theorem dL_pass_14 : decode cL_pass 14 = .ok (.ireturn, 1) := by decide +kernel
theorem dL_pass_15 : decode cL_pass 15 = .ok (.astore_n 3, 1) := by decide +kernel
theorem dL_pass_16 : decode cL_pass 16 = .ok (.iconst 2, 1) := by decide +kernel
theorem dL_pass_17 : decode cL_pass 17 = .ok (.ireturn, 1) := by decide +kernel
theorem dL_pass_18 : decode cL_pass 18 = .ok (.iconst 0, 1) := by decide +kernel
theorem dL_pass_19 : decode cL_pass 19 = .ok (.ireturn, 1) := by decide +kernel
theorem dL_law_0 : decode cL_law 0 = .ok (.new 8, 3) := by decide +kernel
theorem dL_law_3 : decode cL_law 3 = .ok (.dup, 1) := by decide +kernel
theorem dL_law_4 : decode cL_law 4 = .ok (.invokespecial 98, 3) := by decide +kernel
theorem dL_law_7 : decode cL_law 7 = .ok (.astore_n 1, 1) := by decide +kernel
theorem dL_law_8 : decode cL_law 8 = .ok (.new 99, 3) := by decide +kernel
theorem dL_law_11 : decode cL_law 11 = .ok (.dup, 1) := by decide +kernel
theorem dL_law_12 : decode cL_law 12 = .ok (.invokespecial 101, 3) := by decide +kernel
theorem dL_law_15 : decode cL_law 15 = .ok (.astore_n 2, 1) := by decide +kernel
theorem dL_law_16 : decode cL_law 16 = .ok (.iconst 1, 1) := by decide +kernel
theorem dL_law_17 : decode cL_law 17 = .ok (.newarray .long, 2) := by decide +kernel
theorem dL_law_19 : decode cL_law 19 = .ok (.astore_n 3, 1) := by decide +kernel
theorem dL_law_20 : decode cL_law 20 = .ok (.iconst 0, 1) := by decide +kernel
theorem dL_law_21 : decode cL_law 21 = .ok (.istore 4, 2) := by decide +kernel
theorem dL_law_23 : decode cL_law 23 = .ok (.iload 4, 2) := by decide +kernel
theorem dL_law_25 : decode cL_law 25 = .ok (.aload_n 0, 1) := by decide +kernel
theorem dL_law_26 : decode cL_law 26 = .ok (.arraylength, 1) := by decide +kernel
theorem dL_law_27 : decode cL_law 27 = .ok (.bipush 8, 2) := by decide +kernel
theorem dL_law_29 : decode cL_law 29 = .ok (.isub, 1) := by decide +kernel
theorem dL_law_30 : decode cL_law 30 = .ok (.if_icmp .gt 1818, 3) := by decide +kernel
theorem dL_law_33 : decode cL_law 33 = .ok (.aload_n 0, 1) := by decide +kernel
theorem dL_law_34 : decode cL_law 34 = .ok (.iload 4, 2) := by decide +kernel
theorem dL_law_36 : decode cL_law 36 = .ok (.iaload, 1) := by decide +kernel
theorem dL_law_37 : decode cL_law 37 = .ok (.bipush 31, 2) := by decide +kernel
theorem dL_law_39 : decode cL_law 39 = .ok (.iand, 1) := by decide +kernel
theorem dL_law_40 : decode cL_law 40 = .ok (.tableswitch 1802 0 23 #[112, 215, 275, 323, 487, 523, 603, 683, 751, 855, 923, 991, 1051, 1107, 1175, 1267, 1323, 1379, 1442, 1498, 1566, 1622, 1678, 1746], 112) := by decide +kernel
theorem dL_law_152 : decode cL_law 152 = .ok (.aload_n 1, 1) := by decide +kernel
theorem dL_law_153 : decode cL_law 153 = .ok (.aload_n 0, 1) := by decide +kernel
theorem dL_law_154 : decode cL_law 154 = .ok (.iload 4, 2) := by decide +kernel
theorem dL_law_156 : decode cL_law 156 = .ok (.iconst 1, 1) := by decide +kernel
theorem dL_law_157 : decode cL_law 157 = .ok (.iadd, 1) := by decide +kernel
theorem dL_law_158 : decode cL_law 158 = .ok (.iaload, 1) := by decide +kernel
theorem dL_law_159 : decode cL_law 159 = .ok (.aload_n 0, 1) := by decide +kernel
theorem dL_law_160 : decode cL_law 160 = .ok (.iload 4, 2) := by decide +kernel
theorem dL_law_162 : decode cL_law 162 = .ok (.iconst 2, 1) := by decide +kernel
theorem dL_law_163 : decode cL_law 163 = .ok (.iadd, 1) := by decide +kernel
theorem dL_law_164 : decode cL_law 164 = .ok (.iaload, 1) := by decide +kernel
theorem dL_law_165 : decode cL_law 165 = .ok (.aload_n 0, 1) := by decide +kernel
theorem dL_law_166 : decode cL_law 166 = .ok (.iload 4, 2) := by decide +kernel
theorem dL_law_168 : decode cL_law 168 = .ok (.iconst 3, 1) := by decide +kernel
theorem dL_law_169 : decode cL_law 169 = .ok (.iadd, 1) := by decide +kernel
theorem dL_law_170 : decode cL_law 170 = .ok (.iaload, 1) := by decide +kernel
theorem dL_law_171 : decode cL_law 171 = .ok (.ifCond .eq 7, 3) := by decide +kernel
theorem dL_law_174 : decode cL_law 174 = .ok (.iconst 1, 1) := by decide +kernel
theorem dL_law_175 : decode cL_law 175 = .ok (.goto 4, 3) := by decide +kernel
theorem dL_law_178 : decode cL_law 178 = .ok (.iconst 0, 1) := by decide +kernel
theorem dL_law_179 : decode cL_law 179 = .ok (.aload_n 3, 1) := by decide +kernel
theorem dL_law_180 : decode cL_law 180 = .ok (.invokestatic 102, 3) := by decide +kernel
theorem dL_law_183 : decode cL_law 183 = .ok (.istore 5, 2) := by decide +kernel
theorem dL_law_185 : decode cL_law 185 = .ok (.aload_n 2, 1) := by decide +kernel
theorem dL_law_186 : decode cL_law 186 = .ok (.aload_n 0, 1) := by decide +kernel
theorem dL_law_187 : decode cL_law 187 = .ok (.iload 4, 2) := by decide +kernel
theorem dL_law_189 : decode cL_law 189 = .ok (.iconst 1, 1) := by decide +kernel
theorem dL_law_190 : decode cL_law 190 = .ok (.iadd, 1) := by decide +kernel
theorem dL_law_191 : decode cL_law 191 = .ok (.iaload, 1) := by decide +kernel
theorem dL_law_192 : decode cL_law 192 = .ok (.aload_n 0, 1) := by decide +kernel
theorem dL_law_193 : decode cL_law 193 = .ok (.iload 4, 2) := by decide +kernel
theorem dL_law_195 : decode cL_law 195 = .ok (.iconst 2, 1) := by decide +kernel
theorem dL_law_196 : decode cL_law 196 = .ok (.iadd, 1) := by decide +kernel
theorem dL_law_197 : decode cL_law 197 = .ok (.iaload, 1) := by decide +kernel
theorem dL_law_198 : decode cL_law 198 = .ok (.aload_n 0, 1) := by decide +kernel
theorem dL_law_199 : decode cL_law 199 = .ok (.iload 4, 2) := by decide +kernel
theorem dL_law_201 : decode cL_law 201 = .ok (.iconst 3, 1) := by decide +kernel
theorem dL_law_202 : decode cL_law 202 = .ok (.iadd, 1) := by decide +kernel
theorem dL_law_203 : decode cL_law 203 = .ok (.iaload, 1) := by decide +kernel
theorem dL_law_204 : decode cL_law 204 = .ok (.ifCond .eq 7, 3) := by decide +kernel
theorem dL_law_207 : decode cL_law 207 = .ok (.iconst 1, 1) := by decide +kernel
theorem dL_law_208 : decode cL_law 208 = .ok (.goto 4, 3) := by decide +kernel
theorem dL_law_211 : decode cL_law 211 = .ok (.iconst 0, 1) := by decide +kernel
theorem dL_law_212 : decode cL_law 212 = .ok (.invokevirtual 107, 3) := by decide +kernel
theorem dL_law_215 : decode cL_law 215 = .ok (.istore 6, 2) := by decide +kernel
theorem dL_law_217 : decode cL_law 217 = .ok (.aload_n 2, 1) := by decide +kernel
theorem dL_law_218 : decode cL_law 218 = .ok (.invokevirtual 108, 3) := by decide +kernel
theorem dL_law_221 : decode cL_law 221 = .ok (.iload 5, 2) := by decide +kernel
theorem dL_law_223 : decode cL_law 223 = .ok (.if_icmp .eq 5, 3) := by decide +kernel
theorem dL_law_226 : decode cL_law 226 = .ok (.iconst 0, 1) := by decide +kernel
theorem dL_law_227 : decode cL_law 227 = .ok (.ireturn, 1) := by decide +kernel
theorem dL_law_228 : decode cL_law 228 = .ok (.iload 5, 2) := by decide +kernel
theorem dL_law_230 : decode cL_law 230 = .ok (.ifCond .ne 22, 3) := by decide +kernel
theorem dL_law_233 : decode cL_law 233 = .ok (.aload_n 3, 1) := by decide +kernel
theorem dL_law_234 : decode cL_law 234 = .ok (.iconst 0, 1) := by decide +kernel
theorem dL_law_235 : decode cL_law 235 = .ok (.laload, 1) := by decide +kernel
theorem dL_law_236 : decode cL_law 236 = .ok (.iload 6, 2) := by decide +kernel
theorem dL_law_238 : decode cL_law 238 = .ok (.ifCond .eq 7, 3) := by decide +kernel
theorem dL_law_241 : decode cL_law 241 = .ok (.lconst 1, 1) := by decide +kernel
theorem dL_law_242 : decode cL_law 242 = .ok (.goto 4, 3) := by decide +kernel
theorem dL_law_245 : decode cL_law 245 = .ok (.lconst 0, 1) := by decide +kernel
theorem dL_law_246 : decode cL_law 246 = .ok (.lcmp, 1) := by decide +kernel
theorem dL_law_247 : decode cL_law 247 = .ok (.ifCond .eq 5, 3) := by decide +kernel
theorem dL_law_250 : decode cL_law 250 = .ok (.iconst 0, 1) := by decide +kernel
theorem dL_law_251 : decode cL_law 251 = .ok (.ireturn, 1) := by decide +kernel
theorem dL_law_252 : decode cL_law 252 = .ok (.goto 1590, 3) := by decide +kernel
theorem dL_law_255 : decode cL_law 255 = .ok (.aload_n 1, 1) := by decide +kernel
theorem dL_law_256 : decode cL_law 256 = .ok (.aload_n 0, 1) := by decide +kernel
theorem dL_law_257 : decode cL_law 257 = .ok (.iload 4, 2) := by decide +kernel
theorem dL_law_259 : decode cL_law 259 = .ok (.iconst 1, 1) := by decide +kernel
theorem dL_law_260 : decode cL_law 260 = .ok (.iadd, 1) := by decide +kernel
theorem dL_law_261 : decode cL_law 261 = .ok (.iaload, 1) := by decide +kernel
theorem dL_law_262 : decode cL_law 262 = .ok (.aload_n 0, 1) := by decide +kernel
theorem dL_law_263 : decode cL_law 263 = .ok (.iload 4, 2) := by decide +kernel
theorem dL_law_265 : decode cL_law 265 = .ok (.iconst 2, 1) := by decide +kernel
theorem dL_law_266 : decode cL_law 266 = .ok (.iadd, 1) := by decide +kernel
theorem dL_law_267 : decode cL_law 267 = .ok (.iaload, 1) := by decide +kernel
theorem dL_law_268 : decode cL_law 268 = .ok (.aload_n 0, 1) := by decide +kernel
theorem dL_law_269 : decode cL_law 269 = .ok (.iload 4, 2) := by decide +kernel
theorem dL_law_271 : decode cL_law 271 = .ok (.iconst 3, 1) := by decide +kernel
theorem dL_law_272 : decode cL_law 272 = .ok (.iadd, 1) := by decide +kernel
theorem dL_law_273 : decode cL_law 273 = .ok (.iaload, 1) := by decide +kernel
theorem dL_law_274 : decode cL_law 274 = .ok (.invokestatic 112, 3) := by decide +kernel
theorem dL_law_277 : decode cL_law 277 = .ok (.istore 5, 2) := by decide +kernel
theorem dL_law_279 : decode cL_law 279 = .ok (.aload_n 2, 1) := by decide +kernel
theorem dL_law_280 : decode cL_law 280 = .ok (.aload_n 0, 1) := by decide +kernel
theorem dL_law_281 : decode cL_law 281 = .ok (.iload 4, 2) := by decide +kernel
theorem dL_law_283 : decode cL_law 283 = .ok (.iconst 1, 1) := by decide +kernel
theorem dL_law_284 : decode cL_law 284 = .ok (.iadd, 1) := by decide +kernel
theorem dL_law_285 : decode cL_law 285 = .ok (.iaload, 1) := by decide +kernel
theorem dL_law_286 : decode cL_law 286 = .ok (.aload_n 0, 1) := by decide +kernel
theorem dL_law_287 : decode cL_law 287 = .ok (.iload 4, 2) := by decide +kernel
theorem dL_law_289 : decode cL_law 289 = .ok (.iconst 2, 1) := by decide +kernel
theorem dL_law_290 : decode cL_law 290 = .ok (.iadd, 1) := by decide +kernel
theorem dL_law_291 : decode cL_law 291 = .ok (.iaload, 1) := by decide +kernel
theorem dL_law_292 : decode cL_law 292 = .ok (.aload_n 0, 1) := by decide +kernel
theorem dL_law_293 : decode cL_law 293 = .ok (.iload 4, 2) := by decide +kernel
theorem dL_law_295 : decode cL_law 295 = .ok (.iconst 3, 1) := by decide +kernel
theorem dL_law_296 : decode cL_law 296 = .ok (.iadd, 1) := by decide +kernel
theorem dL_law_297 : decode cL_law 297 = .ok (.iaload, 1) := by decide +kernel
theorem dL_law_298 : decode cL_law 298 = .ok (.invokevirtual 115, 3) := by decide +kernel
theorem dL_law_301 : decode cL_law 301 = .ok (.aload_n 2, 1) := by decide +kernel
theorem dL_law_302 : decode cL_law 302 = .ok (.invokevirtual 108, 3) := by decide +kernel
theorem dL_law_305 : decode cL_law 305 = .ok (.iload 5, 2) := by decide +kernel
theorem dL_law_307 : decode cL_law 307 = .ok (.if_icmp .eq 5, 3) := by decide +kernel
theorem dL_law_310 : decode cL_law 310 = .ok (.iconst 0, 1) := by decide +kernel
theorem dL_law_311 : decode cL_law 311 = .ok (.ireturn, 1) := by decide +kernel
theorem dL_law_312 : decode cL_law 312 = .ok (.goto 1530, 3) := by decide +kernel
theorem dL_law_315 : decode cL_law 315 = .ok (.aload_n 1, 1) := by decide +kernel
theorem dL_law_316 : decode cL_law 316 = .ok (.aload_n 0, 1) := by decide +kernel
theorem dL_law_317 : decode cL_law 317 = .ok (.iload 4, 2) := by decide +kernel
theorem dL_law_319 : decode cL_law 319 = .ok (.iconst 1, 1) := by decide +kernel
theorem dL_law_320 : decode cL_law 320 = .ok (.iadd, 1) := by decide +kernel
theorem dL_law_321 : decode cL_law 321 = .ok (.iaload, 1) := by decide +kernel
theorem dL_law_322 : decode cL_law 322 = .ok (.aload_n 0, 1) := by decide +kernel
theorem dL_law_323 : decode cL_law 323 = .ok (.iload 4, 2) := by decide +kernel
theorem dL_law_325 : decode cL_law 325 = .ok (.iconst 2, 1) := by decide +kernel
theorem dL_law_326 : decode cL_law 326 = .ok (.iadd, 1) := by decide +kernel
theorem dL_law_327 : decode cL_law 327 = .ok (.iaload, 1) := by decide +kernel
theorem dL_law_328 : decode cL_law 328 = .ok (.invokestatic 116, 3) := by decide +kernel
theorem dL_law_331 : decode cL_law 331 = .ok (.istore 5, 2) := by decide +kernel
end
section
theorem dL_law_333 : decode cL_law 333 = .ok (.aload_n 2, 1) := by decide +kernel
theorem dL_law_334 : decode cL_law 334 = .ok (.aload_n 0, 1) := by decide +kernel
theorem dL_law_335 : decode cL_law 335 = .ok (.iload 4, 2) := by decide +kernel
theorem dL_law_337 : decode cL_law 337 = .ok (.iconst 1, 1) := by decide +kernel
theorem dL_law_338 : decode cL_law 338 = .ok (.iadd, 1) := by decide +kernel
theorem dL_law_339 : decode cL_law 339 = .ok (.iaload, 1) := by decide +kernel
theorem dL_law_340 : decode cL_law 340 = .ok (.aload_n 0, 1) := by decide +kernel
theorem dL_law_341 : decode cL_law 341 = .ok (.iload 4, 2) := by decide +kernel
theorem dL_law_343 : decode cL_law 343 = .ok (.iconst 2, 1) := by decide +kernel
theorem dL_law_344 : decode cL_law 344 = .ok (.iadd, 1) := by decide +kernel
theorem dL_law_345 : decode cL_law 345 = .ok (.iaload, 1) := by decide +kernel
theorem dL_law_346 : decode cL_law 346 = .ok (.invokevirtual 119, 3) := by decide +kernel
theorem dL_law_349 : decode cL_law 349 = .ok (.aload_n 2, 1) := by decide +kernel
theorem dL_law_350 : decode cL_law 350 = .ok (.invokevirtual 108, 3) := by decide +kernel
theorem dL_law_353 : decode cL_law 353 = .ok (.iload 5, 2) := by decide +kernel
theorem dL_law_355 : decode cL_law 355 = .ok (.if_icmp .eq 5, 3) := by decide +kernel
theorem dL_law_358 : decode cL_law 358 = .ok (.iconst 0, 1) := by decide +kernel
theorem dL_law_359 : decode cL_law 359 = .ok (.ireturn, 1) := by decide +kernel
theorem dL_law_360 : decode cL_law 360 = .ok (.goto 1482, 3) := by decide +kernel
theorem dL_law_363 : decode cL_law 363 = .ok (.aload_n 1, 1) := by decide +kernel
theorem dL_law_364 : decode cL_law 364 = .ok (.aload_n 0, 1) := by decide +kernel
theorem dL_law_365 : decode cL_law 365 = .ok (.iload 4, 2) := by decide +kernel
theorem dL_law_367 : decode cL_law 367 = .ok (.iconst 1, 1) := by decide +kernel
theorem dL_law_368 : decode cL_law 368 = .ok (.iadd, 1) := by decide +kernel
theorem dL_law_369 : decode cL_law 369 = .ok (.iaload, 1) := by decide +kernel
theorem dL_law_370 : decode cL_law 370 = .ok (.aload_n 0, 1) := by decide +kernel
theorem dL_law_371 : decode cL_law 371 = .ok (.iload 4, 2) := by decide +kernel
theorem dL_law_373 : decode cL_law 373 = .ok (.iconst 2, 1) := by decide +kernel
theorem dL_law_374 : decode cL_law 374 = .ok (.iadd, 1) := by decide +kernel
theorem dL_law_375 : decode cL_law 375 = .ok (.iaload, 1) := by decide +kernel
theorem dL_law_376 : decode cL_law 376 = .ok (.aload_n 0, 1) := by decide +kernel
theorem dL_law_377 : decode cL_law 377 = .ok (.iload 4, 2) := by decide +kernel
theorem dL_law_379 : decode cL_law 379 = .ok (.iconst 3, 1) := by decide +kernel
theorem dL_law_380 : decode cL_law 380 = .ok (.iadd, 1) := by decide +kernel
theorem dL_law_381 : decode cL_law 381 = .ok (.iaload, 1) := by decide +kernel
theorem dL_law_382 : decode cL_law 382 = .ok (.aload_n 0, 1) := by decide +kernel
theorem dL_law_383 : decode cL_law 383 = .ok (.iload 4, 2) := by decide +kernel
theorem dL_law_385 : decode cL_law 385 = .ok (.iconst 4, 1) := by decide +kernel
theorem dL_law_386 : decode cL_law 386 = .ok (.iadd, 1) := by decide +kernel
theorem dL_law_387 : decode cL_law 387 = .ok (.iaload, 1) := by decide +kernel
theorem dL_law_388 : decode cL_law 388 = .ok (.aload_n 0, 1) := by decide +kernel
theorem dL_law_389 : decode cL_law 389 = .ok (.iload 4, 2) := by decide +kernel
theorem dL_law_391 : decode cL_law 391 = .ok (.iconst 5, 1) := by decide +kernel
theorem dL_law_392 : decode cL_law 392 = .ok (.iadd, 1) := by decide +kernel
theorem dL_law_393 : decode cL_law 393 = .ok (.iaload, 1) := by decide +kernel
theorem dL_law_394 : decode cL_law 394 = .ok (.aload_n 0, 1) := by decide +kernel
theorem dL_law_395 : decode cL_law 395 = .ok (.iload 4, 2) := by decide +kernel
theorem dL_law_397 : decode cL_law 397 = .ok (.bipush 6, 2) := by decide +kernel
theorem dL_law_399 : decode cL_law 399 = .ok (.iadd, 1) := by decide +kernel
theorem dL_law_400 : decode cL_law 400 = .ok (.iaload, 1) := by decide +kernel
theorem dL_law_401 : decode cL_law 401 = .ok (.ifCond .eq 7, 3) := by decide +kernel
theorem dL_law_404 : decode cL_law 404 = .ok (.iconst 1, 1) := by decide +kernel
theorem dL_law_405 : decode cL_law 405 = .ok (.goto 4, 3) := by decide +kernel
theorem dL_law_408 : decode cL_law 408 = .ok (.iconst 0, 1) := by decide +kernel
theorem dL_law_409 : decode cL_law 409 = .ok (.aload_n 0, 1) := by decide +kernel
theorem dL_law_410 : decode cL_law 410 = .ok (.iload 4, 2) := by decide +kernel
theorem dL_law_412 : decode cL_law 412 = .ok (.bipush 7, 2) := by decide +kernel
theorem dL_law_414 : decode cL_law 414 = .ok (.iadd, 1) := by decide +kernel
theorem dL_law_415 : decode cL_law 415 = .ok (.iaload, 1) := by decide +kernel
theorem dL_law_416 : decode cL_law 416 = .ok (.ifCond .eq 7, 3) := by decide +kernel
theorem dL_law_419 : decode cL_law 419 = .ok (.iconst 1, 1) := by decide +kernel
theorem dL_law_420 : decode cL_law 420 = .ok (.goto 4, 3) := by decide +kernel
theorem dL_law_423 : decode cL_law 423 = .ok (.iconst 0, 1) := by decide +kernel
theorem dL_law_424 : decode cL_law 424 = .ok (.aload_n 3, 1) := by decide +kernel
theorem dL_law_425 : decode cL_law 425 = .ok (.invokestatic 120, 3) := by decide +kernel
theorem dL_law_428 : decode cL_law 428 = .ok (.istore 5, 2) := by decide +kernel
theorem dL_law_430 : decode cL_law 430 = .ok (.aload_n 2, 1) := by decide +kernel
theorem dL_law_431 : decode cL_law 431 = .ok (.aload_n 0, 1) := by decide +kernel
theorem dL_law_432 : decode cL_law 432 = .ok (.iload 4, 2) := by decide +kernel
theorem dL_law_434 : decode cL_law 434 = .ok (.iconst 1, 1) := by decide +kernel
theorem dL_law_435 : decode cL_law 435 = .ok (.iadd, 1) := by decide +kernel
theorem dL_law_436 : decode cL_law 436 = .ok (.iaload, 1) := by decide +kernel
theorem dL_law_437 : decode cL_law 437 = .ok (.aload_n 0, 1) := by decide +kernel
theorem dL_law_438 : decode cL_law 438 = .ok (.iload 4, 2) := by decide +kernel
theorem dL_law_440 : decode cL_law 440 = .ok (.iconst 2, 1) := by decide +kernel
theorem dL_law_441 : decode cL_law 441 = .ok (.iadd, 1) := by decide +kernel
theorem dL_law_442 : decode cL_law 442 = .ok (.iaload, 1) := by decide +kernel
theorem dL_law_443 : decode cL_law 443 = .ok (.aload_n 0, 1) := by decide +kernel
theorem dL_law_444 : decode cL_law 444 = .ok (.iload 4, 2) := by decide +kernel
theorem dL_law_446 : decode cL_law 446 = .ok (.iconst 3, 1) := by decide +kernel
theorem dL_law_447 : decode cL_law 447 = .ok (.iadd, 1) := by decide +kernel
theorem dL_law_448 : decode cL_law 448 = .ok (.iaload, 1) := by decide +kernel
theorem dL_law_449 : decode cL_law 449 = .ok (.aload_n 0, 1) := by decide +kernel
theorem dL_law_450 : decode cL_law 450 = .ok (.iload 4, 2) := by decide +kernel
theorem dL_law_452 : decode cL_law 452 = .ok (.iconst 4, 1) := by decide +kernel
theorem dL_law_453 : decode cL_law 453 = .ok (.iadd, 1) := by decide +kernel
theorem dL_law_454 : decode cL_law 454 = .ok (.iaload, 1) := by decide +kernel
theorem dL_law_455 : decode cL_law 455 = .ok (.aload_n 0, 1) := by decide +kernel
theorem dL_law_456 : decode cL_law 456 = .ok (.iload 4, 2) := by decide +kernel
theorem dL_law_458 : decode cL_law 458 = .ok (.iconst 5, 1) := by decide +kernel
theorem dL_law_459 : decode cL_law 459 = .ok (.iadd, 1) := by decide +kernel
theorem dL_law_460 : decode cL_law 460 = .ok (.iaload, 1) := by decide +kernel
theorem dL_law_461 : decode cL_law 461 = .ok (.aload_n 0, 1) := by decide +kernel
theorem dL_law_462 : decode cL_law 462 = .ok (.iload 4, 2) := by decide +kernel
theorem dL_law_464 : decode cL_law 464 = .ok (.bipush 6, 2) := by decide +kernel
theorem dL_law_466 : decode cL_law 466 = .ok (.iadd, 1) := by decide +kernel
theorem dL_law_467 : decode cL_law 467 = .ok (.iaload, 1) := by decide +kernel
theorem dL_law_468 : decode cL_law 468 = .ok (.ifCond .eq 7, 3) := by decide +kernel
theorem dL_law_471 : decode cL_law 471 = .ok (.iconst 1, 1) := by decide +kernel
theorem dL_law_472 : decode cL_law 472 = .ok (.goto 4, 3) := by decide +kernel
theorem dL_law_475 : decode cL_law 475 = .ok (.iconst 0, 1) := by decide +kernel
theorem dL_law_476 : decode cL_law 476 = .ok (.aload_n 0, 1) := by decide +kernel
theorem dL_law_477 : decode cL_law 477 = .ok (.iload 4, 2) := by decide +kernel
theorem dL_law_479 : decode cL_law 479 = .ok (.bipush 7, 2) := by decide +kernel
theorem dL_law_481 : decode cL_law 481 = .ok (.iadd, 1) := by decide +kernel
theorem dL_law_482 : decode cL_law 482 = .ok (.iaload, 1) := by decide +kernel
theorem dL_law_483 : decode cL_law 483 = .ok (.ifCond .eq 7, 3) := by decide +kernel
theorem dL_law_486 : decode cL_law 486 = .ok (.iconst 1, 1) := by decide +kernel
theorem dL_law_487 : decode cL_law 487 = .ok (.goto 4, 3) := by decide +kernel
theorem dL_law_490 : decode cL_law 490 = .ok (.iconst 0, 1) := by decide +kernel
theorem dL_law_491 : decode cL_law 491 = .ok (.invokevirtual 123, 3) := by decide +kernel
theorem dL_law_494 : decode cL_law 494 = .ok (.istore 6, 2) := by decide +kernel
theorem dL_law_496 : decode cL_law 496 = .ok (.aload_n 2, 1) := by decide +kernel
theorem dL_law_497 : decode cL_law 497 = .ok (.invokevirtual 108, 3) := by decide +kernel
theorem dL_law_500 : decode cL_law 500 = .ok (.iload 5, 2) := by decide +kernel
theorem dL_law_502 : decode cL_law 502 = .ok (.if_icmp .eq 5, 3) := by decide +kernel
theorem dL_law_505 : decode cL_law 505 = .ok (.iconst 0, 1) := by decide +kernel
theorem dL_law_506 : decode cL_law 506 = .ok (.ireturn, 1) := by decide +kernel
theorem dL_law_507 : decode cL_law 507 = .ok (.iload 5, 2) := by decide +kernel
theorem dL_law_509 : decode cL_law 509 = .ok (.ifCond .ne 15, 3) := by decide +kernel
theorem dL_law_512 : decode cL_law 512 = .ok (.aload_n 3, 1) := by decide +kernel
theorem dL_law_513 : decode cL_law 513 = .ok (.iconst 0, 1) := by decide +kernel
theorem dL_law_514 : decode cL_law 514 = .ok (.laload, 1) := by decide +kernel
theorem dL_law_515 : decode cL_law 515 = .ok (.iload 6, 2) := by decide +kernel
theorem dL_law_517 : decode cL_law 517 = .ok (.i2l, 1) := by decide +kernel
theorem dL_law_518 : decode cL_law 518 = .ok (.lcmp, 1) := by decide +kernel
theorem dL_law_519 : decode cL_law 519 = .ok (.ifCond .eq 5, 3) := by decide +kernel
theorem dL_law_522 : decode cL_law 522 = .ok (.iconst 0, 1) := by decide +kernel
theorem dL_law_523 : decode cL_law 523 = .ok (.ireturn, 1) := by decide +kernel
theorem dL_law_524 : decode cL_law 524 = .ok (.goto 1318, 3) := by decide +kernel
theorem dL_law_527 : decode cL_law 527 = .ok (.aload_n 1, 1) := by decide +kernel
theorem dL_law_528 : decode cL_law 528 = .ok (.aload_n 0, 1) := by decide +kernel
theorem dL_law_529 : decode cL_law 529 = .ok (.iload 4, 2) := by decide +kernel
theorem dL_law_531 : decode cL_law 531 = .ok (.iconst 1, 1) := by decide +kernel
theorem dL_law_532 : decode cL_law 532 = .ok (.iadd, 1) := by decide +kernel
theorem dL_law_533 : decode cL_law 533 = .ok (.iaload, 1) := by decide +kernel
theorem dL_law_534 : decode cL_law 534 = .ok (.invokestatic 124, 3) := by decide +kernel
theorem dL_law_537 : decode cL_law 537 = .ok (.istore 5, 2) := by decide +kernel
theorem dL_law_539 : decode cL_law 539 = .ok (.aload_n 2, 1) := by decide +kernel
theorem dL_law_540 : decode cL_law 540 = .ok (.aload_n 0, 1) := by decide +kernel
theorem dL_law_541 : decode cL_law 541 = .ok (.iload 4, 2) := by decide +kernel
theorem dL_law_543 : decode cL_law 543 = .ok (.iconst 1, 1) := by decide +kernel
theorem dL_law_544 : decode cL_law 544 = .ok (.iadd, 1) := by decide +kernel
theorem dL_law_545 : decode cL_law 545 = .ok (.iaload, 1) := by decide +kernel
theorem dL_law_546 : decode cL_law 546 = .ok (.invokevirtual 127, 3) := by decide +kernel
theorem dL_law_549 : decode cL_law 549 = .ok (.aload_n 2, 1) := by decide +kernel
theorem dL_law_550 : decode cL_law 550 = .ok (.invokevirtual 108, 3) := by decide +kernel
theorem dL_law_553 : decode cL_law 553 = .ok (.iload 5, 2) := by decide +kernel
theorem dL_law_555 : decode cL_law 555 = .ok (.if_icmp .eq 5, 3) := by decide +kernel
theorem dL_law_558 : decode cL_law 558 = .ok (.iconst 0, 1) := by decide +kernel
theorem dL_law_559 : decode cL_law 559 = .ok (.ireturn, 1) := by decide +kernel
theorem dL_law_560 : decode cL_law 560 = .ok (.goto 1282, 3) := by decide +kernel
theorem dL_law_563 : decode cL_law 563 = .ok (.aload_n 1, 1) := by decide +kernel
theorem dL_law_564 : decode cL_law 564 = .ok (.aload_n 0, 1) := by decide +kernel
theorem dL_law_565 : decode cL_law 565 = .ok (.iload 4, 2) := by decide +kernel
theorem dL_law_567 : decode cL_law 567 = .ok (.iconst 1, 1) := by decide +kernel
theorem dL_law_568 : decode cL_law 568 = .ok (.iadd, 1) := by decide +kernel
theorem dL_law_569 : decode cL_law 569 = .ok (.iaload, 1) := by decide +kernel
theorem dL_law_570 : decode cL_law 570 = .ok (.aload_n 0, 1) := by decide +kernel
theorem dL_law_571 : decode cL_law 571 = .ok (.iload 4, 2) := by decide +kernel
theorem dL_law_573 : decode cL_law 573 = .ok (.iconst 2, 1) := by decide +kernel
theorem dL_law_574 : decode cL_law 574 = .ok (.iadd, 1) := by decide +kernel
theorem dL_law_575 : decode cL_law 575 = .ok (.iaload, 1) := by decide +kernel
theorem dL_law_576 : decode cL_law 576 = .ok (.aload_n 0, 1) := by decide +kernel
theorem dL_law_577 : decode cL_law 577 = .ok (.iload 4, 2) := by decide +kernel
theorem dL_law_579 : decode cL_law 579 = .ok (.iconst 3, 1) := by decide +kernel
theorem dL_law_580 : decode cL_law 580 = .ok (.iadd, 1) := by decide +kernel
theorem dL_law_581 : decode cL_law 581 = .ok (.iaload, 1) := by decide +kernel
theorem dL_law_582 : decode cL_law 582 = .ok (.aload_n 3, 1) := by decide +kernel
theorem dL_law_583 : decode cL_law 583 = .ok (.invokestatic 128, 3) := by decide +kernel
theorem dL_law_586 : decode cL_law 586 = .ok (.istore 5, 2) := by decide +kernel
theorem dL_law_588 : decode cL_law 588 = .ok (.aload_n 2, 1) := by decide +kernel
theorem dL_law_589 : decode cL_law 589 = .ok (.aload_n 0, 1) := by decide +kernel
theorem dL_law_590 : decode cL_law 590 = .ok (.iload 4, 2) := by decide +kernel
theorem dL_law_592 : decode cL_law 592 = .ok (.iconst 1, 1) := by decide +kernel
theorem dL_law_593 : decode cL_law 593 = .ok (.iadd, 1) := by decide +kernel
theorem dL_law_594 : decode cL_law 594 = .ok (.iaload, 1) := by decide +kernel
theorem dL_law_595 : decode cL_law 595 = .ok (.aload_n 0, 1) := by decide +kernel
theorem dL_law_596 : decode cL_law 596 = .ok (.iload 4, 2) := by decide +kernel
theorem dL_law_598 : decode cL_law 598 = .ok (.iconst 2, 1) := by decide +kernel
theorem dL_law_599 : decode cL_law 599 = .ok (.iadd, 1) := by decide +kernel
theorem dL_law_600 : decode cL_law 600 = .ok (.iaload, 1) := by decide +kernel
theorem dL_law_601 : decode cL_law 601 = .ok (.aload_n 0, 1) := by decide +kernel
theorem dL_law_602 : decode cL_law 602 = .ok (.iload 4, 2) := by decide +kernel
theorem dL_law_604 : decode cL_law 604 = .ok (.iconst 3, 1) := by decide +kernel
theorem dL_law_605 : decode cL_law 605 = .ok (.iadd, 1) := by decide +kernel
theorem dL_law_606 : decode cL_law 606 = .ok (.iaload, 1) := by decide +kernel
theorem dL_law_607 : decode cL_law 607 = .ok (.invokevirtual 131, 3) := by decide +kernel
theorem dL_law_610 : decode cL_law 610 = .ok (.istore 6, 2) := by decide +kernel
theorem dL_law_612 : decode cL_law 612 = .ok (.aload_n 2, 1) := by decide +kernel
theorem dL_law_613 : decode cL_law 613 = .ok (.invokevirtual 108, 3) := by decide +kernel
theorem dL_law_616 : decode cL_law 616 = .ok (.iload 5, 2) := by decide +kernel
theorem dL_law_618 : decode cL_law 618 = .ok (.if_icmp .eq 5, 3) := by decide +kernel
theorem dL_law_621 : decode cL_law 621 = .ok (.iconst 0, 1) := by decide +kernel
theorem dL_law_622 : decode cL_law 622 = .ok (.ireturn, 1) := by decide +kernel
theorem dL_law_623 : decode cL_law 623 = .ok (.iload 5, 2) := by decide +kernel
theorem dL_law_625 : decode cL_law 625 = .ok (.ifCond .ne 15, 3) := by decide +kernel
theorem dL_law_628 : decode cL_law 628 = .ok (.aload_n 3, 1) := by decide +kernel
theorem dL_law_629 : decode cL_law 629 = .ok (.iconst 0, 1) := by decide +kernel
theorem dL_law_630 : decode cL_law 630 = .ok (.laload, 1) := by decide +kernel
theorem dL_law_631 : decode cL_law 631 = .ok (.iload 6, 2) := by decide +kernel
theorem dL_law_633 : decode cL_law 633 = .ok (.i2l, 1) := by decide +kernel
theorem dL_law_634 : decode cL_law 634 = .ok (.lcmp, 1) := by decide +kernel
theorem dL_law_635 : decode cL_law 635 = .ok (.ifCond .eq 5, 3) := by decide +kernel
theorem dL_law_638 : decode cL_law 638 = .ok (.iconst 0, 1) := by decide +kernel
theorem dL_law_639 : decode cL_law 639 = .ok (.ireturn, 1) := by decide +kernel
theorem dL_law_640 : decode cL_law 640 = .ok (.goto 1202, 3) := by decide +kernel
theorem dL_law_643 : decode cL_law 643 = .ok (.aload_n 1, 1) := by decide +kernel
theorem dL_law_644 : decode cL_law 644 = .ok (.aload_n 0, 1) := by decide +kernel
theorem dL_law_645 : decode cL_law 645 = .ok (.iload 4, 2) := by decide +kernel
theorem dL_law_647 : decode cL_law 647 = .ok (.iconst 1, 1) := by decide +kernel
theorem dL_law_648 : decode cL_law 648 = .ok (.iadd, 1) := by decide +kernel
theorem dL_law_649 : decode cL_law 649 = .ok (.iaload, 1) := by decide +kernel
theorem dL_law_650 : decode cL_law 650 = .ok (.aload_n 0, 1) := by decide +kernel
theorem dL_law_651 : decode cL_law 651 = .ok (.iload 4, 2) := by decide +kernel
theorem dL_law_653 : decode cL_law 653 = .ok (.iconst 2, 1) := by decide +kernel
theorem dL_law_654 : decode cL_law 654 = .ok (.iadd, 1) := by decide +kernel
theorem dL_law_655 : decode cL_law 655 = .ok (.iaload, 1) := by decide +kernel
theorem dL_law_656 : decode cL_law 656 = .ok (.aload_n 0, 1) := by decide +kernel
theorem dL_law_657 : decode cL_law 657 = .ok (.iload 4, 2) := by decide +kernel
theorem dL_law_659 : decode cL_law 659 = .ok (.iconst 3, 1) := by decide +kernel
theorem dL_law_660 : decode cL_law 660 = .ok (.iadd, 1) := by decide +kernel
theorem dL_law_661 : decode cL_law 661 = .ok (.iaload, 1) := by decide +kernel
theorem dL_law_662 : decode cL_law 662 = .ok (.aload_n 3, 1) := by decide +kernel
theorem dL_law_663 : decode cL_law 663 = .ok (.invokestatic 132, 3) := by decide +kernel
theorem dL_law_666 : decode cL_law 666 = .ok (.istore 5, 2) := by decide +kernel
theorem dL_law_668 : decode cL_law 668 = .ok (.aload_n 2, 1) := by decide +kernel
theorem dL_law_669 : decode cL_law 669 = .ok (.aload_n 0, 1) := by decide +kernel
theorem dL_law_670 : decode cL_law 670 = .ok (.iload 4, 2) := by decide +kernel
theorem dL_law_672 : decode cL_law 672 = .ok (.iconst 1, 1) := by decide +kernel
theorem dL_law_673 : decode cL_law 673 = .ok (.iadd, 1) := by decide +kernel
theorem dL_law_674 : decode cL_law 674 = .ok (.iaload, 1) := by decide +kernel
theorem dL_law_675 : decode cL_law 675 = .ok (.aload_n 0, 1) := by decide +kernel
theorem dL_law_676 : decode cL_law 676 = .ok (.iload 4, 2) := by decide +kernel
theorem dL_law_678 : decode cL_law 678 = .ok (.iconst 2, 1) := by decide +kernel
theorem dL_law_679 : decode cL_law 679 = .ok (.iadd, 1) := by decide +kernel
theorem dL_law_680 : decode cL_law 680 = .ok (.iaload, 1) := by decide +kernel
theorem dL_law_681 : decode cL_law 681 = .ok (.aload_n 0, 1) := by decide +kernel
theorem dL_law_682 : decode cL_law 682 = .ok (.iload 4, 2) := by decide +kernel
theorem dL_law_684 : decode cL_law 684 = .ok (.iconst 3, 1) := by decide +kernel
theorem dL_law_685 : decode cL_law 685 = .ok (.iadd, 1) := by decide +kernel
theorem dL_law_686 : decode cL_law 686 = .ok (.iaload, 1) := by decide +kernel
theorem dL_law_687 : decode cL_law 687 = .ok (.invokevirtual 134, 3) := by decide +kernel
theorem dL_law_690 : decode cL_law 690 = .ok (.istore 6, 2) := by decide +kernel
theorem dL_law_692 : decode cL_law 692 = .ok (.aload_n 2, 1) := by decide +kernel
theorem dL_law_693 : decode cL_law 693 = .ok (.invokevirtual 108, 3) := by decide +kernel
theorem dL_law_696 : decode cL_law 696 = .ok (.iload 5, 2) := by decide +kernel
theorem dL_law_698 : decode cL_law 698 = .ok (.if_icmp .eq 5, 3) := by decide +kernel
theorem dL_law_701 : decode cL_law 701 = .ok (.iconst 0, 1) := by decide +kernel
theorem dL_law_702 : decode cL_law 702 = .ok (.ireturn, 1) := by decide +kernel
theorem dL_law_703 : decode cL_law 703 = .ok (.iload 5, 2) := by decide +kernel
theorem dL_law_705 : decode cL_law 705 = .ok (.ifCond .ne 15, 3) := by decide +kernel
theorem dL_law_708 : decode cL_law 708 = .ok (.aload_n 3, 1) := by decide +kernel
theorem dL_law_709 : decode cL_law 709 = .ok (.iconst 0, 1) := by decide +kernel
theorem dL_law_710 : decode cL_law 710 = .ok (.laload, 1) := by decide +kernel
theorem dL_law_711 : decode cL_law 711 = .ok (.iload 6, 2) := by decide +kernel
theorem dL_law_713 : decode cL_law 713 = .ok (.i2l, 1) := by decide +kernel
theorem dL_law_714 : decode cL_law 714 = .ok (.lcmp, 1) := by decide +kernel
theorem dL_law_715 : decode cL_law 715 = .ok (.ifCond .eq 5, 3) := by decide +kernel
theorem dL_law_718 : decode cL_law 718 = .ok (.iconst 0, 1) := by decide +kernel
theorem dL_law_719 : decode cL_law 719 = .ok (.ireturn, 1) := by decide +kernel
theorem dL_law_720 : decode cL_law 720 = .ok (.goto 1122, 3) := by decide +kernel
theorem dL_law_723 : decode cL_law 723 = .ok (.aload_n 1, 1) := by decide +kernel
theorem dL_law_724 : decode cL_law 724 = .ok (.aload_n 0, 1) := by decide +kernel
theorem dL_law_725 : decode cL_law 725 = .ok (.iload 4, 2) := by decide +kernel
theorem dL_law_727 : decode cL_law 727 = .ok (.iconst 1, 1) := by decide +kernel
theorem dL_law_728 : decode cL_law 728 = .ok (.iadd, 1) := by decide +kernel
theorem dL_law_729 : decode cL_law 729 = .ok (.iaload, 1) := by decide +kernel
theorem dL_law_730 : decode cL_law 730 = .ok (.aload_n 0, 1) := by decide +kernel
theorem dL_law_731 : decode cL_law 731 = .ok (.iload 4, 2) := by decide +kernel
theorem dL_law_733 : decode cL_law 733 = .ok (.iconst 2, 1) := by decide +kernel
theorem dL_law_734 : decode cL_law 734 = .ok (.iadd, 1) := by decide +kernel
theorem dL_law_735 : decode cL_law 735 = .ok (.iaload, 1) := by decide +kernel
theorem dL_law_736 : decode cL_law 736 = .ok (.aload_n 3, 1) := by decide +kernel
theorem dL_law_737 : decode cL_law 737 = .ok (.invokestatic 135, 3) := by decide +kernel
theorem dL_law_740 : decode cL_law 740 = .ok (.istore 5, 2) := by decide +kernel
theorem dL_law_742 : decode cL_law 742 = .ok (.aload_n 2, 1) := by decide +kernel
theorem dL_law_743 : decode cL_law 743 = .ok (.aload_n 0, 1) := by decide +kernel
theorem dL_law_744 : decode cL_law 744 = .ok (.iload 4, 2) := by decide +kernel
theorem dL_law_746 : decode cL_law 746 = .ok (.iconst 1, 1) := by decide +kernel
theorem dL_law_747 : decode cL_law 747 = .ok (.iadd, 1) := by decide +kernel
theorem dL_law_748 : decode cL_law 748 = .ok (.iaload, 1) := by decide +kernel
theorem dL_law_749 : decode cL_law 749 = .ok (.aload_n 0, 1) := by decide +kernel
theorem dL_law_750 : decode cL_law 750 = .ok (.iload 4, 2) := by decide +kernel
theorem dL_law_752 : decode cL_law 752 = .ok (.iconst 2, 1) := by decide +kernel
theorem dL_law_753 : decode cL_law 753 = .ok (.iadd, 1) := by decide +kernel
theorem dL_law_754 : decode cL_law 754 = .ok (.iaload, 1) := by decide +kernel
theorem dL_law_755 : decode cL_law 755 = .ok (.invokevirtual 138, 3) := by decide +kernel
theorem dL_law_758 : decode cL_law 758 = .ok (.istore 6, 2) := by decide +kernel
theorem dL_law_760 : decode cL_law 760 = .ok (.aload_n 2, 1) := by decide +kernel
theorem dL_law_761 : decode cL_law 761 = .ok (.invokevirtual 108, 3) := by decide +kernel
theorem dL_law_764 : decode cL_law 764 = .ok (.iload 5, 2) := by decide +kernel
theorem dL_law_766 : decode cL_law 766 = .ok (.if_icmp .eq 5, 3) := by decide +kernel
theorem dL_law_769 : decode cL_law 769 = .ok (.iconst 0, 1) := by decide +kernel
theorem dL_law_770 : decode cL_law 770 = .ok (.ireturn, 1) := by decide +kernel
theorem dL_law_771 : decode cL_law 771 = .ok (.iload 5, 2) := by decide +kernel
theorem dL_law_773 : decode cL_law 773 = .ok (.ifCond .ne 15, 3) := by decide +kernel
theorem dL_law_776 : decode cL_law 776 = .ok (.aload_n 3, 1) := by decide +kernel
theorem dL_law_777 : decode cL_law 777 = .ok (.iconst 0, 1) := by decide +kernel
theorem dL_law_778 : decode cL_law 778 = .ok (.laload, 1) := by decide +kernel
theorem dL_law_779 : decode cL_law 779 = .ok (.iload 6, 2) := by decide +kernel
theorem dL_law_781 : decode cL_law 781 = .ok (.i2l, 1) := by decide +kernel
theorem dL_law_782 : decode cL_law 782 = .ok (.lcmp, 1) := by decide +kernel
theorem dL_law_783 : decode cL_law 783 = .ok (.ifCond .eq 5, 3) := by decide +kernel
theorem dL_law_786 : decode cL_law 786 = .ok (.iconst 0, 1) := by decide +kernel
theorem dL_law_787 : decode cL_law 787 = .ok (.ireturn, 1) := by decide +kernel
theorem dL_law_788 : decode cL_law 788 = .ok (.goto 1054, 3) := by decide +kernel
theorem dL_law_791 : decode cL_law 791 = .ok (.aload_n 1, 1) := by decide +kernel
theorem dL_law_792 : decode cL_law 792 = .ok (.aload_n 0, 1) := by decide +kernel
theorem dL_law_793 : decode cL_law 793 = .ok (.iload 4, 2) := by decide +kernel
theorem dL_law_795 : decode cL_law 795 = .ok (.iconst 1, 1) := by decide +kernel
theorem dL_law_796 : decode cL_law 796 = .ok (.iadd, 1) := by decide +kernel
theorem dL_law_797 : decode cL_law 797 = .ok (.iaload, 1) := by decide +kernel
theorem dL_law_798 : decode cL_law 798 = .ok (.aload_n 0, 1) := by decide +kernel
theorem dL_law_799 : decode cL_law 799 = .ok (.iload 4, 2) := by decide +kernel
theorem dL_law_801 : decode cL_law 801 = .ok (.iconst 2, 1) := by decide +kernel
theorem dL_law_802 : decode cL_law 802 = .ok (.iadd, 1) := by decide +kernel
theorem dL_law_803 : decode cL_law 803 = .ok (.iaload, 1) := by decide +kernel
theorem dL_law_804 : decode cL_law 804 = .ok (.aload_n 0, 1) := by decide +kernel
theorem dL_law_805 : decode cL_law 805 = .ok (.iload 4, 2) := by decide +kernel
theorem dL_law_807 : decode cL_law 807 = .ok (.iconst 3, 1) := by decide +kernel
theorem dL_law_808 : decode cL_law 808 = .ok (.iadd, 1) := by decide +kernel
theorem dL_law_809 : decode cL_law 809 = .ok (.iaload, 1) := by decide +kernel
theorem dL_law_810 : decode cL_law 810 = .ok (.aload_n 0, 1) := by decide +kernel
theorem dL_law_811 : decode cL_law 811 = .ok (.iload 4, 2) := by decide +kernel
theorem dL_law_813 : decode cL_law 813 = .ok (.iconst 4, 1) := by decide +kernel
theorem dL_law_814 : decode cL_law 814 = .ok (.iadd, 1) := by decide +kernel
theorem dL_law_815 : decode cL_law 815 = .ok (.iaload, 1) := by decide +kernel
theorem dL_law_816 : decode cL_law 816 = .ok (.aload_n 0, 1) := by decide +kernel
theorem dL_law_817 : decode cL_law 817 = .ok (.iload 4, 2) := by decide +kernel
theorem dL_law_819 : decode cL_law 819 = .ok (.iconst 5, 1) := by decide +kernel
theorem dL_law_820 : decode cL_law 820 = .ok (.iadd, 1) := by decide +kernel
theorem dL_law_821 : decode cL_law 821 = .ok (.iaload, 1) := by decide +kernel
theorem dL_law_822 : decode cL_law 822 = .ok (.aload_n 3, 1) := by decide +kernel
theorem dL_law_823 : decode cL_law 823 = .ok (.invokestatic 139, 3) := by decide +kernel
theorem dL_law_826 : decode cL_law 826 = .ok (.istore 5, 2) := by decide +kernel
theorem dL_law_828 : decode cL_law 828 = .ok (.aload_n 2, 1) := by decide +kernel
theorem dL_law_829 : decode cL_law 829 = .ok (.aload_n 0, 1) := by decide +kernel
theorem dL_law_830 : decode cL_law 830 = .ok (.iload 4, 2) := by decide +kernel
theorem dL_law_832 : decode cL_law 832 = .ok (.iconst 1, 1) := by decide +kernel
theorem dL_law_833 : decode cL_law 833 = .ok (.iadd, 1) := by decide +kernel
theorem dL_law_834 : decode cL_law 834 = .ok (.iaload, 1) := by decide +kernel
theorem dL_law_835 : decode cL_law 835 = .ok (.aload_n 0, 1) := by decide +kernel
theorem dL_law_836 : decode cL_law 836 = .ok (.iload 4, 2) := by decide +kernel
theorem dL_law_838 : decode cL_law 838 = .ok (.iconst 2, 1) := by decide +kernel
theorem dL_law_839 : decode cL_law 839 = .ok (.iadd, 1) := by decide +kernel
theorem dL_law_840 : decode cL_law 840 = .ok (.iaload, 1) := by decide +kernel
theorem dL_law_841 : decode cL_law 841 = .ok (.aload_n 0, 1) := by decide +kernel
theorem dL_law_842 : decode cL_law 842 = .ok (.iload 4, 2) := by decide +kernel
theorem dL_law_844 : decode cL_law 844 = .ok (.iconst 3, 1) := by decide +kernel
theorem dL_law_845 : decode cL_law 845 = .ok (.iadd, 1) := by decide +kernel
theorem dL_law_846 : decode cL_law 846 = .ok (.iaload, 1) := by decide +kernel
theorem dL_law_847 : decode cL_law 847 = .ok (.aload_n 0, 1) := by decide +kernel
theorem dL_law_848 : decode cL_law 848 = .ok (.iload 4, 2) := by decide +kernel
theorem dL_law_850 : decode cL_law 850 = .ok (.iconst 4, 1) := by decide +kernel
theorem dL_law_851 : decode cL_law 851 = .ok (.iadd, 1) := by decide +kernel
theorem dL_law_852 : decode cL_law 852 = .ok (.iaload, 1) := by decide +kernel
theorem dL_law_853 : decode cL_law 853 = .ok (.aload_n 0, 1) := by decide +kernel
theorem dL_law_854 : decode cL_law 854 = .ok (.iload 4, 2) := by decide +kernel
theorem dL_law_856 : decode cL_law 856 = .ok (.iconst 5, 1) := by decide +kernel
theorem dL_law_857 : decode cL_law 857 = .ok (.iadd, 1) := by decide +kernel
theorem dL_law_858 : decode cL_law 858 = .ok (.iaload, 1) := by decide +kernel
theorem dL_law_859 : decode cL_law 859 = .ok (.invokevirtual 142, 3) := by decide +kernel
theorem dL_law_862 : decode cL_law 862 = .ok (.istore 6, 2) := by decide +kernel
theorem dL_law_864 : decode cL_law 864 = .ok (.aload_n 2, 1) := by decide +kernel
theorem dL_law_865 : decode cL_law 865 = .ok (.invokevirtual 108, 3) := by decide +kernel
theorem dL_law_868 : decode cL_law 868 = .ok (.iload 5, 2) := by decide +kernel
theorem dL_law_870 : decode cL_law 870 = .ok (.if_icmp .eq 5, 3) := by decide +kernel
theorem dL_law_873 : decode cL_law 873 = .ok (.iconst 0, 1) := by decide +kernel
theorem dL_law_874 : decode cL_law 874 = .ok (.ireturn, 1) := by decide +kernel
theorem dL_law_875 : decode cL_law 875 = .ok (.iload 5, 2) := by decide +kernel
theorem dL_law_877 : decode cL_law 877 = .ok (.ifCond .ne 15, 3) := by decide +kernel
theorem dL_law_880 : decode cL_law 880 = .ok (.aload_n 3, 1) := by decide +kernel
theorem dL_law_881 : decode cL_law 881 = .ok (.iconst 0, 1) := by decide +kernel
theorem dL_law_882 : decode cL_law 882 = .ok (.laload, 1) := by decide +kernel
theorem dL_law_883 : decode cL_law 883 = .ok (.iload 6, 2) := by decide +kernel
theorem dL_law_885 : decode cL_law 885 = .ok (.i2l, 1) := by decide +kernel
theorem dL_law_886 : decode cL_law 886 = .ok (.lcmp, 1) := by decide +kernel
theorem dL_law_887 : decode cL_law 887 = .ok (.ifCond .eq 5, 3) := by decide +kernel
theorem dL_law_890 : decode cL_law 890 = .ok (.iconst 0, 1) := by decide +kernel
theorem dL_law_891 : decode cL_law 891 = .ok (.ireturn, 1) := by decide +kernel
theorem dL_law_892 : decode cL_law 892 = .ok (.goto 950, 3) := by decide +kernel
theorem dL_law_895 : decode cL_law 895 = .ok (.aload_n 1, 1) := by decide +kernel
theorem dL_law_896 : decode cL_law 896 = .ok (.aload_n 0, 1) := by decide +kernel
theorem dL_law_897 : decode cL_law 897 = .ok (.iload 4, 2) := by decide +kernel
theorem dL_law_899 : decode cL_law 899 = .ok (.iconst 1, 1) := by decide +kernel
theorem dL_law_900 : decode cL_law 900 = .ok (.iadd, 1) := by decide +kernel
theorem dL_law_901 : decode cL_law 901 = .ok (.iaload, 1) := by decide +kernel
theorem dL_law_902 : decode cL_law 902 = .ok (.aload_n 0, 1) := by decide +kernel
theorem dL_law_903 : decode cL_law 903 = .ok (.iload 4, 2) := by decide +kernel
theorem dL_law_905 : decode cL_law 905 = .ok (.iconst 2, 1) := by decide +kernel
theorem dL_law_906 : decode cL_law 906 = .ok (.iadd, 1) := by decide +kernel
theorem dL_law_907 : decode cL_law 907 = .ok (.iaload, 1) := by decide +kernel
theorem dL_law_908 : decode cL_law 908 = .ok (.aload_n 3, 1) := by decide +kernel
theorem dL_law_909 : decode cL_law 909 = .ok (.invokestatic 143, 3) := by decide +kernel
theorem dL_law_912 : decode cL_law 912 = .ok (.istore 5, 2) := by decide +kernel
theorem dL_law_914 : decode cL_law 914 = .ok (.aload_n 2, 1) := by decide +kernel
theorem dL_law_915 : decode cL_law 915 = .ok (.aload_n 0, 1) := by decide +kernel
theorem dL_law_916 : decode cL_law 916 = .ok (.iload 4, 2) := by decide +kernel
theorem dL_law_918 : decode cL_law 918 = .ok (.iconst 1, 1) := by decide +kernel
theorem dL_law_919 : decode cL_law 919 = .ok (.iadd, 1) := by decide +kernel
theorem dL_law_920 : decode cL_law 920 = .ok (.iaload, 1) := by decide +kernel
theorem dL_law_921 : decode cL_law 921 = .ok (.aload_n 0, 1) := by decide +kernel
theorem dL_law_922 : decode cL_law 922 = .ok (.iload 4, 2) := by decide +kernel
theorem dL_law_924 : decode cL_law 924 = .ok (.iconst 2, 1) := by decide +kernel
theorem dL_law_925 : decode cL_law 925 = .ok (.iadd, 1) := by decide +kernel
theorem dL_law_926 : decode cL_law 926 = .ok (.iaload, 1) := by decide +kernel
theorem dL_law_927 : decode cL_law 927 = .ok (.invokevirtual 145, 3) := by decide +kernel
theorem dL_law_930 : decode cL_law 930 = .ok (.istore 6, 2) := by decide +kernel
theorem dL_law_932 : decode cL_law 932 = .ok (.aload_n 2, 1) := by decide +kernel
theorem dL_law_933 : decode cL_law 933 = .ok (.invokevirtual 108, 3) := by decide +kernel
theorem dL_law_936 : decode cL_law 936 = .ok (.iload 5, 2) := by decide +kernel
theorem dL_law_938 : decode cL_law 938 = .ok (.if_icmp .eq 5, 3) := by decide +kernel
theorem dL_law_941 : decode cL_law 941 = .ok (.iconst 0, 1) := by decide +kernel
theorem dL_law_942 : decode cL_law 942 = .ok (.ireturn, 1) := by decide +kernel
theorem dL_law_943 : decode cL_law 943 = .ok (.iload 5, 2) := by decide +kernel
theorem dL_law_945 : decode cL_law 945 = .ok (.ifCond .ne 15, 3) := by decide +kernel
theorem dL_law_948 : decode cL_law 948 = .ok (.aload_n 3, 1) := by decide +kernel
theorem dL_law_949 : decode cL_law 949 = .ok (.iconst 0, 1) := by decide +kernel
theorem dL_law_950 : decode cL_law 950 = .ok (.laload, 1) := by decide +kernel
theorem dL_law_951 : decode cL_law 951 = .ok (.iload 6, 2) := by decide +kernel
theorem dL_law_953 : decode cL_law 953 = .ok (.i2l, 1) := by decide +kernel
theorem dL_law_954 : decode cL_law 954 = .ok (.lcmp, 1) := by decide +kernel
theorem dL_law_955 : decode cL_law 955 = .ok (.ifCond .eq 5, 3) := by decide +kernel
theorem dL_law_958 : decode cL_law 958 = .ok (.iconst 0, 1) := by decide +kernel
theorem dL_law_959 : decode cL_law 959 = .ok (.ireturn, 1) := by decide +kernel
theorem dL_law_960 : decode cL_law 960 = .ok (.goto 882, 3) := by decide +kernel
theorem dL_law_963 : decode cL_law 963 = .ok (.aload_n 1, 1) := by decide +kernel
theorem dL_law_964 : decode cL_law 964 = .ok (.aload_n 0, 1) := by decide +kernel
theorem dL_law_965 : decode cL_law 965 = .ok (.iload 4, 2) := by decide +kernel
theorem dL_law_967 : decode cL_law 967 = .ok (.iconst 1, 1) := by decide +kernel
theorem dL_law_968 : decode cL_law 968 = .ok (.iadd, 1) := by decide +kernel
theorem dL_law_969 : decode cL_law 969 = .ok (.iaload, 1) := by decide +kernel
theorem dL_law_970 : decode cL_law 970 = .ok (.aload_n 0, 1) := by decide +kernel
theorem dL_law_971 : decode cL_law 971 = .ok (.iload 4, 2) := by decide +kernel
theorem dL_law_973 : decode cL_law 973 = .ok (.iconst 2, 1) := by decide +kernel
theorem dL_law_974 : decode cL_law 974 = .ok (.iadd, 1) := by decide +kernel
theorem dL_law_975 : decode cL_law 975 = .ok (.iaload, 1) := by decide +kernel
theorem dL_law_976 : decode cL_law 976 = .ok (.aload_n 3, 1) := by decide +kernel
theorem dL_law_977 : decode cL_law 977 = .ok (.invokestatic 146, 3) := by decide +kernel
theorem dL_law_980 : decode cL_law 980 = .ok (.istore 5, 2) := by decide +kernel
theorem dL_law_982 : decode cL_law 982 = .ok (.aload_n 2, 1) := by decide +kernel
theorem dL_law_983 : decode cL_law 983 = .ok (.aload_n 0, 1) := by decide +kernel
theorem dL_law_984 : decode cL_law 984 = .ok (.iload 4, 2) := by decide +kernel
theorem dL_law_986 : decode cL_law 986 = .ok (.iconst 1, 1) := by decide +kernel
theorem dL_law_987 : decode cL_law 987 = .ok (.iadd, 1) := by decide +kernel
theorem dL_law_988 : decode cL_law 988 = .ok (.iaload, 1) := by decide +kernel
theorem dL_law_989 : decode cL_law 989 = .ok (.aload_n 0, 1) := by decide +kernel
theorem dL_law_990 : decode cL_law 990 = .ok (.iload 4, 2) := by decide +kernel
theorem dL_law_992 : decode cL_law 992 = .ok (.iconst 2, 1) := by decide +kernel
theorem dL_law_993 : decode cL_law 993 = .ok (.iadd, 1) := by decide +kernel
theorem dL_law_994 : decode cL_law 994 = .ok (.iaload, 1) := by decide +kernel
theorem dL_law_995 : decode cL_law 995 = .ok (.invokevirtual 148, 3) := by decide +kernel
theorem dL_law_998 : decode cL_law 998 = .ok (.istore 6, 2) := by decide +kernel
theorem dL_law_1000 : decode cL_law 1000 = .ok (.aload_n 2, 1) := by decide +kernel
theorem dL_law_1001 : decode cL_law 1001 = .ok (.invokevirtual 108, 3) := by decide +kernel
theorem dL_law_1004 : decode cL_law 1004 = .ok (.iload 5, 2) := by decide +kernel
theorem dL_law_1006 : decode cL_law 1006 = .ok (.if_icmp .eq 5, 3) := by decide +kernel
theorem dL_law_1009 : decode cL_law 1009 = .ok (.iconst 0, 1) := by decide +kernel
theorem dL_law_1010 : decode cL_law 1010 = .ok (.ireturn, 1) := by decide +kernel
theorem dL_law_1011 : decode cL_law 1011 = .ok (.iload 5, 2) := by decide +kernel
theorem dL_law_1013 : decode cL_law 1013 = .ok (.ifCond .ne 15, 3) := by decide +kernel
theorem dL_law_1016 : decode cL_law 1016 = .ok (.aload_n 3, 1) := by decide +kernel
theorem dL_law_1017 : decode cL_law 1017 = .ok (.iconst 0, 1) := by decide +kernel
theorem dL_law_1018 : decode cL_law 1018 = .ok (.laload, 1) := by decide +kernel
theorem dL_law_1019 : decode cL_law 1019 = .ok (.iload 6, 2) := by decide +kernel
theorem dL_law_1021 : decode cL_law 1021 = .ok (.i2l, 1) := by decide +kernel
theorem dL_law_1022 : decode cL_law 1022 = .ok (.lcmp, 1) := by decide +kernel
theorem dL_law_1023 : decode cL_law 1023 = .ok (.ifCond .eq 5, 3) := by decide +kernel
theorem dL_law_1026 : decode cL_law 1026 = .ok (.iconst 0, 1) := by decide +kernel
theorem dL_law_1027 : decode cL_law 1027 = .ok (.ireturn, 1) := by decide +kernel
theorem dL_law_1028 : decode cL_law 1028 = .ok (.goto 814, 3) := by decide +kernel
theorem dL_law_1031 : decode cL_law 1031 = .ok (.aload_n 1, 1) := by decide +kernel
theorem dL_law_1032 : decode cL_law 1032 = .ok (.aload_n 0, 1) := by decide +kernel
theorem dL_law_1033 : decode cL_law 1033 = .ok (.iload 4, 2) := by decide +kernel
theorem dL_law_1035 : decode cL_law 1035 = .ok (.iconst 1, 1) := by decide +kernel
theorem dL_law_1036 : decode cL_law 1036 = .ok (.iadd, 1) := by decide +kernel
theorem dL_law_1037 : decode cL_law 1037 = .ok (.iaload, 1) := by decide +kernel
theorem dL_law_1038 : decode cL_law 1038 = .ok (.aload_n 0, 1) := by decide +kernel
theorem dL_law_1039 : decode cL_law 1039 = .ok (.iload 4, 2) := by decide +kernel
theorem dL_law_1041 : decode cL_law 1041 = .ok (.iconst 2, 1) := by decide +kernel
theorem dL_law_1042 : decode cL_law 1042 = .ok (.iadd, 1) := by decide +kernel
theorem dL_law_1043 : decode cL_law 1043 = .ok (.iaload, 1) := by decide +kernel
theorem dL_law_1044 : decode cL_law 1044 = .ok (.aload_n 0, 1) := by decide +kernel
theorem dL_law_1045 : decode cL_law 1045 = .ok (.iload 4, 2) := by decide +kernel
theorem dL_law_1047 : decode cL_law 1047 = .ok (.iconst 3, 1) := by decide +kernel
theorem dL_law_1048 : decode cL_law 1048 = .ok (.iadd, 1) := by decide +kernel
theorem dL_law_1049 : decode cL_law 1049 = .ok (.iaload, 1) := by decide +kernel
theorem dL_law_1050 : decode cL_law 1050 = .ok (.invokestatic 149, 3) := by decide +kernel
theorem dL_law_1053 : decode cL_law 1053 = .ok (.istore 5, 2) := by decide +kernel
theorem dL_law_1055 : decode cL_law 1055 = .ok (.aload_n 2, 1) := by decide +kernel
theorem dL_law_1056 : decode cL_law 1056 = .ok (.aload_n 0, 1) := by decide +kernel
theorem dL_law_1057 : decode cL_law 1057 = .ok (.iload 4, 2) := by decide +kernel
theorem dL_law_1059 : decode cL_law 1059 = .ok (.iconst 1, 1) := by decide +kernel
theorem dL_law_1060 : decode cL_law 1060 = .ok (.iadd, 1) := by decide +kernel
theorem dL_law_1061 : decode cL_law 1061 = .ok (.iaload, 1) := by decide +kernel
theorem dL_law_1062 : decode cL_law 1062 = .ok (.aload_n 0, 1) := by decide +kernel
theorem dL_law_1063 : decode cL_law 1063 = .ok (.iload 4, 2) := by decide +kernel
theorem dL_law_1065 : decode cL_law 1065 = .ok (.iconst 2, 1) := by decide +kernel
theorem dL_law_1066 : decode cL_law 1066 = .ok (.iadd, 1) := by decide +kernel
theorem dL_law_1067 : decode cL_law 1067 = .ok (.iaload, 1) := by decide +kernel
theorem dL_law_1068 : decode cL_law 1068 = .ok (.aload_n 0, 1) := by decide +kernel
theorem dL_law_1069 : decode cL_law 1069 = .ok (.iload 4, 2) := by decide +kernel
theorem dL_law_1071 : decode cL_law 1071 = .ok (.iconst 3, 1) := by decide +kernel
theorem dL_law_1072 : decode cL_law 1072 = .ok (.iadd, 1) := by decide +kernel
theorem dL_law_1073 : decode cL_law 1073 = .ok (.iaload, 1) := by decide +kernel
theorem dL_law_1074 : decode cL_law 1074 = .ok (.invokevirtual 151, 3) := by decide +kernel
theorem dL_law_1077 : decode cL_law 1077 = .ok (.aload_n 2, 1) := by decide +kernel
theorem dL_law_1078 : decode cL_law 1078 = .ok (.invokevirtual 108, 3) := by decide +kernel
theorem dL_law_1081 : decode cL_law 1081 = .ok (.iload 5, 2) := by decide +kernel
theorem dL_law_1083 : decode cL_law 1083 = .ok (.if_icmp .eq 5, 3) := by decide +kernel
theorem dL_law_1086 : decode cL_law 1086 = .ok (.iconst 0, 1) := by decide +kernel
theorem dL_law_1087 : decode cL_law 1087 = .ok (.ireturn, 1) := by decide +kernel
theorem dL_law_1088 : decode cL_law 1088 = .ok (.goto 754, 3) := by decide +kernel
theorem dL_law_1091 : decode cL_law 1091 = .ok (.aload_n 1, 1) := by decide +kernel
theorem dL_law_1092 : decode cL_law 1092 = .ok (.aload_n 0, 1) := by decide +kernel
theorem dL_law_1093 : decode cL_law 1093 = .ok (.iload 4, 2) := by decide +kernel
theorem dL_law_1095 : decode cL_law 1095 = .ok (.iconst 1, 1) := by decide +kernel
theorem dL_law_1096 : decode cL_law 1096 = .ok (.iadd, 1) := by decide +kernel
theorem dL_law_1097 : decode cL_law 1097 = .ok (.iaload, 1) := by decide +kernel
theorem dL_law_1098 : decode cL_law 1098 = .ok (.aload_n 3, 1) := by decide +kernel
theorem dL_law_1099 : decode cL_law 1099 = .ok (.invokestatic 152, 3) := by decide +kernel
theorem dL_law_1102 : decode cL_law 1102 = .ok (.istore 5, 2) := by decide +kernel
theorem dL_law_1104 : decode cL_law 1104 = .ok (.aload_n 2, 1) := by decide +kernel
theorem dL_law_1105 : decode cL_law 1105 = .ok (.aload_n 0, 1) := by decide +kernel
theorem dL_law_1106 : decode cL_law 1106 = .ok (.iload 4, 2) := by decide +kernel
theorem dL_law_1108 : decode cL_law 1108 = .ok (.iconst 1, 1) := by decide +kernel
theorem dL_law_1109 : decode cL_law 1109 = .ok (.iadd, 1) := by decide +kernel
theorem dL_law_1110 : decode cL_law 1110 = .ok (.iaload, 1) := by decide +kernel
theorem dL_law_1111 : decode cL_law 1111 = .ok (.invokevirtual 155, 3) := by decide +kernel
theorem dL_law_1114 : decode cL_law 1114 = .ok (.istore 6, 2) := by decide +kernel
theorem dL_law_1116 : decode cL_law 1116 = .ok (.aload_n 2, 1) := by decide +kernel
theorem dL_law_1117 : decode cL_law 1117 = .ok (.invokevirtual 108, 3) := by decide +kernel
theorem dL_law_1120 : decode cL_law 1120 = .ok (.iload 5, 2) := by decide +kernel
theorem dL_law_1122 : decode cL_law 1122 = .ok (.if_icmp .eq 5, 3) := by decide +kernel
theorem dL_law_1125 : decode cL_law 1125 = .ok (.iconst 0, 1) := by decide +kernel
theorem dL_law_1126 : decode cL_law 1126 = .ok (.ireturn, 1) := by decide +kernel
theorem dL_law_1127 : decode cL_law 1127 = .ok (.iload 5, 2) := by decide +kernel
theorem dL_law_1129 : decode cL_law 1129 = .ok (.ifCond .ne 15, 3) := by decide +kernel
theorem dL_law_1132 : decode cL_law 1132 = .ok (.aload_n 3, 1) := by decide +kernel
theorem dL_law_1133 : decode cL_law 1133 = .ok (.iconst 0, 1) := by decide +kernel
theorem dL_law_1134 : decode cL_law 1134 = .ok (.laload, 1) := by decide +kernel
theorem dL_law_1135 : decode cL_law 1135 = .ok (.iload 6, 2) := by decide +kernel
theorem dL_law_1137 : decode cL_law 1137 = .ok (.i2l, 1) := by decide +kernel
theorem dL_law_1138 : decode cL_law 1138 = .ok (.lcmp, 1) := by decide +kernel
theorem dL_law_1139 : decode cL_law 1139 = .ok (.ifCond .eq 5, 3) := by decide +kernel
theorem dL_law_1142 : decode cL_law 1142 = .ok (.iconst 0, 1) := by decide +kernel
theorem dL_law_1143 : decode cL_law 1143 = .ok (.ireturn, 1) := by decide +kernel
theorem dL_law_1144 : decode cL_law 1144 = .ok (.goto 698, 3) := by decide +kernel
theorem dL_law_1147 : decode cL_law 1147 = .ok (.aload_n 1, 1) := by decide +kernel
theorem dL_law_1148 : decode cL_law 1148 = .ok (.aload_n 0, 1) := by decide +kernel
theorem dL_law_1149 : decode cL_law 1149 = .ok (.iload 4, 2) := by decide +kernel
theorem dL_law_1151 : decode cL_law 1151 = .ok (.iconst 1, 1) := by decide +kernel
theorem dL_law_1152 : decode cL_law 1152 = .ok (.iadd, 1) := by decide +kernel
theorem dL_law_1153 : decode cL_law 1153 = .ok (.iaload, 1) := by decide +kernel
theorem dL_law_1154 : decode cL_law 1154 = .ok (.aload_n 0, 1) := by decide +kernel
theorem dL_law_1155 : decode cL_law 1155 = .ok (.iload 4, 2) := by decide +kernel
theorem dL_law_1157 : decode cL_law 1157 = .ok (.iconst 2, 1) := by decide +kernel
theorem dL_law_1158 : decode cL_law 1158 = .ok (.iadd, 1) := by decide +kernel
theorem dL_law_1159 : decode cL_law 1159 = .ok (.iaload, 1) := by decide +kernel
theorem dL_law_1160 : decode cL_law 1160 = .ok (.aload_n 3, 1) := by decide +kernel
theorem dL_law_1161 : decode cL_law 1161 = .ok (.invokestatic 156, 3) := by decide +kernel
theorem dL_law_1164 : decode cL_law 1164 = .ok (.istore 5, 2) := by decide +kernel
theorem dL_law_1166 : decode cL_law 1166 = .ok (.aload_n 2, 1) := by decide +kernel
theorem dL_law_1167 : decode cL_law 1167 = .ok (.aload_n 0, 1) := by decide +kernel
theorem dL_law_1168 : decode cL_law 1168 = .ok (.iload 4, 2) := by decide +kernel
theorem dL_law_1170 : decode cL_law 1170 = .ok (.iconst 1, 1) := by decide +kernel
theorem dL_law_1171 : decode cL_law 1171 = .ok (.iadd, 1) := by decide +kernel
theorem dL_law_1172 : decode cL_law 1172 = .ok (.iaload, 1) := by decide +kernel
theorem dL_law_1173 : decode cL_law 1173 = .ok (.aload_n 0, 1) := by decide +kernel
theorem dL_law_1174 : decode cL_law 1174 = .ok (.iload 4, 2) := by decide +kernel
theorem dL_law_1176 : decode cL_law 1176 = .ok (.iconst 2, 1) := by decide +kernel
theorem dL_law_1177 : decode cL_law 1177 = .ok (.iadd, 1) := by decide +kernel
theorem dL_law_1178 : decode cL_law 1178 = .ok (.iaload, 1) := by decide +kernel
theorem dL_law_1179 : decode cL_law 1179 = .ok (.invokevirtual 158, 3) := by decide +kernel
theorem dL_law_1182 : decode cL_law 1182 = .ok (.istore 6, 2) := by decide +kernel
theorem dL_law_1184 : decode cL_law 1184 = .ok (.aload_n 2, 1) := by decide +kernel
theorem dL_law_1185 : decode cL_law 1185 = .ok (.invokevirtual 108, 3) := by decide +kernel
theorem dL_law_1188 : decode cL_law 1188 = .ok (.iload 5, 2) := by decide +kernel
theorem dL_law_1190 : decode cL_law 1190 = .ok (.if_icmp .eq 5, 3) := by decide +kernel
theorem dL_law_1193 : decode cL_law 1193 = .ok (.iconst 0, 1) := by decide +kernel
theorem dL_law_1194 : decode cL_law 1194 = .ok (.ireturn, 1) := by decide +kernel
theorem dL_law_1195 : decode cL_law 1195 = .ok (.iload 5, 2) := by decide +kernel
theorem dL_law_1197 : decode cL_law 1197 = .ok (.ifCond .ne 15, 3) := by decide +kernel
theorem dL_law_1200 : decode cL_law 1200 = .ok (.aload_n 3, 1) := by decide +kernel
theorem dL_law_1201 : decode cL_law 1201 = .ok (.iconst 0, 1) := by decide +kernel
theorem dL_law_1202 : decode cL_law 1202 = .ok (.laload, 1) := by decide +kernel
theorem dL_law_1203 : decode cL_law 1203 = .ok (.iload 6, 2) := by decide +kernel
theorem dL_law_1205 : decode cL_law 1205 = .ok (.i2l, 1) := by decide +kernel
theorem dL_law_1206 : decode cL_law 1206 = .ok (.lcmp, 1) := by decide +kernel
theorem dL_law_1207 : decode cL_law 1207 = .ok (.ifCond .eq 5, 3) := by decide +kernel
theorem dL_law_1210 : decode cL_law 1210 = .ok (.iconst 0, 1) := by decide +kernel
theorem dL_law_1211 : decode cL_law 1211 = .ok (.ireturn, 1) := by decide +kernel
theorem dL_law_1212 : decode cL_law 1212 = .ok (.goto 630, 3) := by decide +kernel
theorem dL_law_1215 : decode cL_law 1215 = .ok (.aload_n 1, 1) := by decide +kernel
theorem dL_law_1216 : decode cL_law 1216 = .ok (.aload_n 0, 1) := by decide +kernel
theorem dL_law_1217 : decode cL_law 1217 = .ok (.iload 4, 2) := by decide +kernel
theorem dL_law_1219 : decode cL_law 1219 = .ok (.iconst 1, 1) := by decide +kernel
theorem dL_law_1220 : decode cL_law 1220 = .ok (.iadd, 1) := by decide +kernel
theorem dL_law_1221 : decode cL_law 1221 = .ok (.iaload, 1) := by decide +kernel
theorem dL_law_1222 : decode cL_law 1222 = .ok (.aload_n 0, 1) := by decide +kernel
theorem dL_law_1223 : decode cL_law 1223 = .ok (.iload 4, 2) := by decide +kernel
theorem dL_law_1225 : decode cL_law 1225 = .ok (.iconst 2, 1) := by decide +kernel
theorem dL_law_1226 : decode cL_law 1226 = .ok (.iadd, 1) := by decide +kernel
theorem dL_law_1227 : decode cL_law 1227 = .ok (.iaload, 1) := by decide +kernel
theorem dL_law_1228 : decode cL_law 1228 = .ok (.aload_n 0, 1) := by decide +kernel
theorem dL_law_1229 : decode cL_law 1229 = .ok (.iload 4, 2) := by decide +kernel
theorem dL_law_1231 : decode cL_law 1231 = .ok (.iconst 3, 1) := by decide +kernel
theorem dL_law_1232 : decode cL_law 1232 = .ok (.iadd, 1) := by decide +kernel
theorem dL_law_1233 : decode cL_law 1233 = .ok (.iaload, 1) := by decide +kernel
theorem dL_law_1234 : decode cL_law 1234 = .ok (.aload_n 0, 1) := by decide +kernel
theorem dL_law_1235 : decode cL_law 1235 = .ok (.iload 4, 2) := by decide +kernel
theorem dL_law_1237 : decode cL_law 1237 = .ok (.iconst 4, 1) := by decide +kernel
theorem dL_law_1238 : decode cL_law 1238 = .ok (.iadd, 1) := by decide +kernel
theorem dL_law_1239 : decode cL_law 1239 = .ok (.iaload, 1) := by decide +kernel
theorem dL_law_1240 : decode cL_law 1240 = .ok (.aload_n 3, 1) := by decide +kernel
theorem dL_law_1241 : decode cL_law 1241 = .ok (.invokestatic 159, 3) := by decide +kernel
theorem dL_law_1244 : decode cL_law 1244 = .ok (.istore 5, 2) := by decide +kernel
theorem dL_law_1246 : decode cL_law 1246 = .ok (.aload_n 2, 1) := by decide +kernel
theorem dL_law_1247 : decode cL_law 1247 = .ok (.aload_n 0, 1) := by decide +kernel
theorem dL_law_1248 : decode cL_law 1248 = .ok (.iload 4, 2) := by decide +kernel
theorem dL_law_1250 : decode cL_law 1250 = .ok (.iconst 1, 1) := by decide +kernel
theorem dL_law_1251 : decode cL_law 1251 = .ok (.iadd, 1) := by decide +kernel
theorem dL_law_1252 : decode cL_law 1252 = .ok (.iaload, 1) := by decide +kernel
theorem dL_law_1253 : decode cL_law 1253 = .ok (.aload_n 0, 1) := by decide +kernel
theorem dL_law_1254 : decode cL_law 1254 = .ok (.iload 4, 2) := by decide +kernel
theorem dL_law_1256 : decode cL_law 1256 = .ok (.iconst 2, 1) := by decide +kernel
theorem dL_law_1257 : decode cL_law 1257 = .ok (.iadd, 1) := by decide +kernel
theorem dL_law_1258 : decode cL_law 1258 = .ok (.iaload, 1) := by decide +kernel
theorem dL_law_1259 : decode cL_law 1259 = .ok (.aload_n 0, 1) := by decide +kernel
theorem dL_law_1260 : decode cL_law 1260 = .ok (.iload 4, 2) := by decide +kernel
theorem dL_law_1262 : decode cL_law 1262 = .ok (.iconst 3, 1) := by decide +kernel
theorem dL_law_1263 : decode cL_law 1263 = .ok (.iadd, 1) := by decide +kernel
theorem dL_law_1264 : decode cL_law 1264 = .ok (.iaload, 1) := by decide +kernel
theorem dL_law_1265 : decode cL_law 1265 = .ok (.aload_n 0, 1) := by decide +kernel
theorem dL_law_1266 : decode cL_law 1266 = .ok (.iload 4, 2) := by decide +kernel
theorem dL_law_1268 : decode cL_law 1268 = .ok (.iconst 4, 1) := by decide +kernel
theorem dL_law_1269 : decode cL_law 1269 = .ok (.iadd, 1) := by decide +kernel
theorem dL_law_1270 : decode cL_law 1270 = .ok (.iaload, 1) := by decide +kernel
theorem dL_law_1271 : decode cL_law 1271 = .ok (.invokevirtual 162, 3) := by decide +kernel
theorem dL_law_1274 : decode cL_law 1274 = .ok (.istore 6, 2) := by decide +kernel
theorem dL_law_1276 : decode cL_law 1276 = .ok (.aload_n 2, 1) := by decide +kernel
theorem dL_law_1277 : decode cL_law 1277 = .ok (.invokevirtual 108, 3) := by decide +kernel
theorem dL_law_1280 : decode cL_law 1280 = .ok (.iload 5, 2) := by decide +kernel
theorem dL_law_1282 : decode cL_law 1282 = .ok (.if_icmp .eq 5, 3) := by decide +kernel
theorem dL_law_1285 : decode cL_law 1285 = .ok (.iconst 0, 1) := by decide +kernel
theorem dL_law_1286 : decode cL_law 1286 = .ok (.ireturn, 1) := by decide +kernel
theorem dL_law_1287 : decode cL_law 1287 = .ok (.iload 5, 2) := by decide +kernel
theorem dL_law_1289 : decode cL_law 1289 = .ok (.ifCond .ne 15, 3) := by decide +kernel
theorem dL_law_1292 : decode cL_law 1292 = .ok (.aload_n 3, 1) := by decide +kernel
theorem dL_law_1293 : decode cL_law 1293 = .ok (.iconst 0, 1) := by decide +kernel
theorem dL_law_1294 : decode cL_law 1294 = .ok (.laload, 1) := by decide +kernel
theorem dL_law_1295 : decode cL_law 1295 = .ok (.iload 6, 2) := by decide +kernel
theorem dL_law_1297 : decode cL_law 1297 = .ok (.i2l, 1) := by decide +kernel
theorem dL_law_1298 : decode cL_law 1298 = .ok (.lcmp, 1) := by decide +kernel
theorem dL_law_1299 : decode cL_law 1299 = .ok (.ifCond .eq 5, 3) := by decide +kernel
theorem dL_law_1302 : decode cL_law 1302 = .ok (.iconst 0, 1) := by decide +kernel
theorem dL_law_1303 : decode cL_law 1303 = .ok (.ireturn, 1) := by decide +kernel
theorem dL_law_1304 : decode cL_law 1304 = .ok (.goto 538, 3) := by decide +kernel
theorem dL_law_1307 : decode cL_law 1307 = .ok (.aload_n 1, 1) := by decide +kernel
theorem dL_law_1308 : decode cL_law 1308 = .ok (.aload_n 0, 1) := by decide +kernel
theorem dL_law_1309 : decode cL_law 1309 = .ok (.iload 4, 2) := by decide +kernel
theorem dL_law_1311 : decode cL_law 1311 = .ok (.iconst 1, 1) := by decide +kernel
theorem dL_law_1312 : decode cL_law 1312 = .ok (.iadd, 1) := by decide +kernel
theorem dL_law_1313 : decode cL_law 1313 = .ok (.iaload, 1) := by decide +kernel
theorem dL_law_1314 : decode cL_law 1314 = .ok (.aload_n 3, 1) := by decide +kernel
theorem dL_law_1315 : decode cL_law 1315 = .ok (.invokestatic 163, 3) := by decide +kernel
theorem dL_law_1318 : decode cL_law 1318 = .ok (.istore 5, 2) := by decide +kernel
theorem dL_law_1320 : decode cL_law 1320 = .ok (.aload_n 2, 1) := by decide +kernel
theorem dL_law_1321 : decode cL_law 1321 = .ok (.aload_n 0, 1) := by decide +kernel
theorem dL_law_1322 : decode cL_law 1322 = .ok (.iload 4, 2) := by decide +kernel
theorem dL_law_1324 : decode cL_law 1324 = .ok (.iconst 1, 1) := by decide +kernel
theorem dL_law_1325 : decode cL_law 1325 = .ok (.iadd, 1) := by decide +kernel
theorem dL_law_1326 : decode cL_law 1326 = .ok (.iaload, 1) := by decide +kernel
theorem dL_law_1327 : decode cL_law 1327 = .ok (.invokevirtual 165, 3) := by decide +kernel
theorem dL_law_1330 : decode cL_law 1330 = .ok (.istore 6, 2) := by decide +kernel
theorem dL_law_1332 : decode cL_law 1332 = .ok (.aload_n 2, 1) := by decide +kernel
theorem dL_law_1333 : decode cL_law 1333 = .ok (.invokevirtual 108, 3) := by decide +kernel
theorem dL_law_1336 : decode cL_law 1336 = .ok (.iload 5, 2) := by decide +kernel
theorem dL_law_1338 : decode cL_law 1338 = .ok (.if_icmp .eq 5, 3) := by decide +kernel
theorem dL_law_1341 : decode cL_law 1341 = .ok (.iconst 0, 1) := by decide +kernel
theorem dL_law_1342 : decode cL_law 1342 = .ok (.ireturn, 1) := by decide +kernel
theorem dL_law_1343 : decode cL_law 1343 = .ok (.iload 5, 2) := by decide +kernel
theorem dL_law_1345 : decode cL_law 1345 = .ok (.ifCond .ne 15, 3) := by decide +kernel
theorem dL_law_1348 : decode cL_law 1348 = .ok (.aload_n 3, 1) := by decide +kernel
theorem dL_law_1349 : decode cL_law 1349 = .ok (.iconst 0, 1) := by decide +kernel
theorem dL_law_1350 : decode cL_law 1350 = .ok (.laload, 1) := by decide +kernel
theorem dL_law_1351 : decode cL_law 1351 = .ok (.iload 6, 2) := by decide +kernel
theorem dL_law_1353 : decode cL_law 1353 = .ok (.i2l, 1) := by decide +kernel
theorem dL_law_1354 : decode cL_law 1354 = .ok (.lcmp, 1) := by decide +kernel
theorem dL_law_1355 : decode cL_law 1355 = .ok (.ifCond .eq 5, 3) := by decide +kernel
theorem dL_law_1358 : decode cL_law 1358 = .ok (.iconst 0, 1) := by decide +kernel
theorem dL_law_1359 : decode cL_law 1359 = .ok (.ireturn, 1) := by decide +kernel
theorem dL_law_1360 : decode cL_law 1360 = .ok (.goto 482, 3) := by decide +kernel
theorem dL_law_1363 : decode cL_law 1363 = .ok (.aload_n 1, 1) := by decide +kernel
theorem dL_law_1364 : decode cL_law 1364 = .ok (.aload_n 0, 1) := by decide +kernel
theorem dL_law_1365 : decode cL_law 1365 = .ok (.iload 4, 2) := by decide +kernel
theorem dL_law_1367 : decode cL_law 1367 = .ok (.iconst 1, 1) := by decide +kernel
theorem dL_law_1368 : decode cL_law 1368 = .ok (.iadd, 1) := by decide +kernel
theorem dL_law_1369 : decode cL_law 1369 = .ok (.iaload, 1) := by decide +kernel
end
section
theorem dL_law_1370 : decode cL_law 1370 = .ok (.aload_n 3, 1) := by decide +kernel
theorem dL_law_1371 : decode cL_law 1371 = .ok (.invokestatic 166, 3) := by decide +kernel
theorem dL_law_1374 : decode cL_law 1374 = .ok (.istore 5, 2) := by decide +kernel
theorem dL_law_1376 : decode cL_law 1376 = .ok (.aload_n 2, 1) := by decide +kernel
theorem dL_law_1377 : decode cL_law 1377 = .ok (.aload_n 0, 1) := by decide +kernel
theorem dL_law_1378 : decode cL_law 1378 = .ok (.iload 4, 2) := by decide +kernel
theorem dL_law_1380 : decode cL_law 1380 = .ok (.iconst 1, 1) := by decide +kernel
theorem dL_law_1381 : decode cL_law 1381 = .ok (.iadd, 1) := by decide +kernel
theorem dL_law_1382 : decode cL_law 1382 = .ok (.iaload, 1) := by decide +kernel
theorem dL_law_1383 : decode cL_law 1383 = .ok (.invokevirtual 168, 3) := by decide +kernel
theorem dL_law_1386 : decode cL_law 1386 = .ok (.istore 6, 2) := by decide +kernel
theorem dL_law_1388 : decode cL_law 1388 = .ok (.aload_n 2, 1) := by decide +kernel
theorem dL_law_1389 : decode cL_law 1389 = .ok (.invokevirtual 108, 3) := by decide +kernel
theorem dL_law_1392 : decode cL_law 1392 = .ok (.iload 5, 2) := by decide +kernel
theorem dL_law_1394 : decode cL_law 1394 = .ok (.if_icmp .eq 5, 3) := by decide +kernel
theorem dL_law_1397 : decode cL_law 1397 = .ok (.iconst 0, 1) := by decide +kernel
theorem dL_law_1398 : decode cL_law 1398 = .ok (.ireturn, 1) := by decide +kernel
theorem dL_law_1399 : decode cL_law 1399 = .ok (.iload 5, 2) := by decide +kernel
theorem dL_law_1401 : decode cL_law 1401 = .ok (.ifCond .ne 15, 3) := by decide +kernel
theorem dL_law_1404 : decode cL_law 1404 = .ok (.aload_n 3, 1) := by decide +kernel
theorem dL_law_1405 : decode cL_law 1405 = .ok (.iconst 0, 1) := by decide +kernel
theorem dL_law_1406 : decode cL_law 1406 = .ok (.laload, 1) := by decide +kernel
theorem dL_law_1407 : decode cL_law 1407 = .ok (.iload 6, 2) := by decide +kernel
theorem dL_law_1409 : decode cL_law 1409 = .ok (.i2l, 1) := by decide +kernel
theorem dL_law_1410 : decode cL_law 1410 = .ok (.lcmp, 1) := by decide +kernel
theorem dL_law_1411 : decode cL_law 1411 = .ok (.ifCond .eq 5, 3) := by decide +kernel
theorem dL_law_1414 : decode cL_law 1414 = .ok (.iconst 0, 1) := by decide +kernel
theorem dL_law_1415 : decode cL_law 1415 = .ok (.ireturn, 1) := by decide +kernel
theorem dL_law_1416 : decode cL_law 1416 = .ok (.goto 426, 3) := by decide +kernel
theorem dL_law_1419 : decode cL_law 1419 = .ok (.aload_n 1, 1) := by decide +kernel
theorem dL_law_1420 : decode cL_law 1420 = .ok (.aload_n 0, 1) := by decide +kernel
theorem dL_law_1421 : decode cL_law 1421 = .ok (.iload 4, 2) := by decide +kernel
theorem dL_law_1423 : decode cL_law 1423 = .ok (.iconst 1, 1) := by decide +kernel
theorem dL_law_1424 : decode cL_law 1424 = .ok (.iadd, 1) := by decide +kernel
theorem dL_law_1425 : decode cL_law 1425 = .ok (.iaload, 1) := by decide +kernel
theorem dL_law_1426 : decode cL_law 1426 = .ok (.aload_n 3, 1) := by decide +kernel
theorem dL_law_1427 : decode cL_law 1427 = .ok (.invokestatic 169, 3) := by decide +kernel
theorem dL_law_1430 : decode cL_law 1430 = .ok (.istore 5, 2) := by decide +kernel
theorem dL_law_1432 : decode cL_law 1432 = .ok (.aload_n 2, 1) := by decide +kernel
theorem dL_law_1433 : decode cL_law 1433 = .ok (.aload_n 0, 1) := by decide +kernel
theorem dL_law_1434 : decode cL_law 1434 = .ok (.iload 4, 2) := by decide +kernel
theorem dL_law_1436 : decode cL_law 1436 = .ok (.iconst 1, 1) := by decide +kernel
theorem dL_law_1437 : decode cL_law 1437 = .ok (.iadd, 1) := by decide +kernel
theorem dL_law_1438 : decode cL_law 1438 = .ok (.iaload, 1) := by decide +kernel
theorem dL_law_1439 : decode cL_law 1439 = .ok (.invokevirtual 171, 3) := by decide +kernel
theorem dL_law_1442 : decode cL_law 1442 = .ok (.istore 6, 2) := by decide +kernel
theorem dL_law_1444 : decode cL_law 1444 = .ok (.aload_n 2, 1) := by decide +kernel
theorem dL_law_1445 : decode cL_law 1445 = .ok (.invokevirtual 108, 3) := by decide +kernel
theorem dL_law_1448 : decode cL_law 1448 = .ok (.iload 5, 2) := by decide +kernel
theorem dL_law_1450 : decode cL_law 1450 = .ok (.if_icmp .eq 5, 3) := by decide +kernel
theorem dL_law_1453 : decode cL_law 1453 = .ok (.iconst 0, 1) := by decide +kernel
theorem dL_law_1454 : decode cL_law 1454 = .ok (.ireturn, 1) := by decide +kernel
theorem dL_law_1455 : decode cL_law 1455 = .ok (.iload 5, 2) := by decide +kernel
theorem dL_law_1457 : decode cL_law 1457 = .ok (.ifCond .ne 22, 3) := by decide +kernel
theorem dL_law_1460 : decode cL_law 1460 = .ok (.aload_n 3, 1) := by decide +kernel
theorem dL_law_1461 : decode cL_law 1461 = .ok (.iconst 0, 1) := by decide +kernel
theorem dL_law_1462 : decode cL_law 1462 = .ok (.laload, 1) := by decide +kernel
theorem dL_law_1463 : decode cL_law 1463 = .ok (.iload 6, 2) := by decide +kernel
theorem dL_law_1465 : decode cL_law 1465 = .ok (.ifCond .eq 7, 3) := by decide +kernel
theorem dL_law_1468 : decode cL_law 1468 = .ok (.lconst 1, 1) := by decide +kernel
theorem dL_law_1469 : decode cL_law 1469 = .ok (.goto 4, 3) := by decide +kernel
theorem dL_law_1472 : decode cL_law 1472 = .ok (.lconst 0, 1) := by decide +kernel
theorem dL_law_1473 : decode cL_law 1473 = .ok (.lcmp, 1) := by decide +kernel
theorem dL_law_1474 : decode cL_law 1474 = .ok (.ifCond .eq 5, 3) := by decide +kernel
theorem dL_law_1477 : decode cL_law 1477 = .ok (.iconst 0, 1) := by decide +kernel
theorem dL_law_1478 : decode cL_law 1478 = .ok (.ireturn, 1) := by decide +kernel
theorem dL_law_1479 : decode cL_law 1479 = .ok (.goto 363, 3) := by decide +kernel
theorem dL_law_1482 : decode cL_law 1482 = .ok (.aload_n 1, 1) := by decide +kernel
theorem dL_law_1483 : decode cL_law 1483 = .ok (.aload_n 0, 1) := by decide +kernel
theorem dL_law_1484 : decode cL_law 1484 = .ok (.iload 4, 2) := by decide +kernel
theorem dL_law_1486 : decode cL_law 1486 = .ok (.iconst 1, 1) := by decide +kernel
theorem dL_law_1487 : decode cL_law 1487 = .ok (.iadd, 1) := by decide +kernel
theorem dL_law_1488 : decode cL_law 1488 = .ok (.iaload, 1) := by decide +kernel
theorem dL_law_1489 : decode cL_law 1489 = .ok (.aload_n 3, 1) := by decide +kernel
theorem dL_law_1490 : decode cL_law 1490 = .ok (.invokestatic 172, 3) := by decide +kernel
theorem dL_law_1493 : decode cL_law 1493 = .ok (.istore 5, 2) := by decide +kernel
theorem dL_law_1495 : decode cL_law 1495 = .ok (.aload_n 2, 1) := by decide +kernel
theorem dL_law_1496 : decode cL_law 1496 = .ok (.aload_n 0, 1) := by decide +kernel
theorem dL_law_1497 : decode cL_law 1497 = .ok (.iload 4, 2) := by decide +kernel
theorem dL_law_1499 : decode cL_law 1499 = .ok (.iconst 1, 1) := by decide +kernel
theorem dL_law_1500 : decode cL_law 1500 = .ok (.iadd, 1) := by decide +kernel
theorem dL_law_1501 : decode cL_law 1501 = .ok (.iaload, 1) := by decide +kernel
theorem dL_law_1502 : decode cL_law 1502 = .ok (.invokevirtual 174, 3) := by decide +kernel
theorem dL_law_1505 : decode cL_law 1505 = .ok (.istore 6, 2) := by decide +kernel
theorem dL_law_1507 : decode cL_law 1507 = .ok (.aload_n 2, 1) := by decide +kernel
theorem dL_law_1508 : decode cL_law 1508 = .ok (.invokevirtual 108, 3) := by decide +kernel
theorem dL_law_1511 : decode cL_law 1511 = .ok (.iload 5, 2) := by decide +kernel
theorem dL_law_1513 : decode cL_law 1513 = .ok (.if_icmp .eq 5, 3) := by decide +kernel
theorem dL_law_1516 : decode cL_law 1516 = .ok (.iconst 0, 1) := by decide +kernel
theorem dL_law_1517 : decode cL_law 1517 = .ok (.ireturn, 1) := by decide +kernel
theorem dL_law_1518 : decode cL_law 1518 = .ok (.iload 5, 2) := by decide +kernel
theorem dL_law_1520 : decode cL_law 1520 = .ok (.ifCond .ne 15, 3) := by decide +kernel
theorem dL_law_1523 : decode cL_law 1523 = .ok (.aload_n 3, 1) := by decide +kernel
theorem dL_law_1524 : decode cL_law 1524 = .ok (.iconst 0, 1) := by decide +kernel
theorem dL_law_1525 : decode cL_law 1525 = .ok (.laload, 1) := by decide +kernel
theorem dL_law_1526 : decode cL_law 1526 = .ok (.iload 6, 2) := by decide +kernel
theorem dL_law_1528 : decode cL_law 1528 = .ok (.i2l, 1) := by decide +kernel
theorem dL_law_1529 : decode cL_law 1529 = .ok (.lcmp, 1) := by decide +kernel
theorem dL_law_1530 : decode cL_law 1530 = .ok (.ifCond .eq 5, 3) := by decide +kernel
theorem dL_law_1533 : decode cL_law 1533 = .ok (.iconst 0, 1) := by decide +kernel
theorem dL_law_1534 : decode cL_law 1534 = .ok (.ireturn, 1) := by decide +kernel
theorem dL_law_1535 : decode cL_law 1535 = .ok (.goto 307, 3) := by decide +kernel
theorem dL_law_1538 : decode cL_law 1538 = .ok (.aload_n 1, 1) := by decide +kernel
theorem dL_law_1539 : decode cL_law 1539 = .ok (.aload_n 0, 1) := by decide +kernel
theorem dL_law_1540 : decode cL_law 1540 = .ok (.iload 4, 2) := by decide +kernel
theorem dL_law_1542 : decode cL_law 1542 = .ok (.iconst 1, 1) := by decide +kernel
theorem dL_law_1543 : decode cL_law 1543 = .ok (.iadd, 1) := by decide +kernel
theorem dL_law_1544 : decode cL_law 1544 = .ok (.iaload, 1) := by decide +kernel
theorem dL_law_1545 : decode cL_law 1545 = .ok (.aload_n 0, 1) := by decide +kernel
theorem dL_law_1546 : decode cL_law 1546 = .ok (.iload 4, 2) := by decide +kernel
theorem dL_law_1548 : decode cL_law 1548 = .ok (.iconst 2, 1) := by decide +kernel
theorem dL_law_1549 : decode cL_law 1549 = .ok (.iadd, 1) := by decide +kernel
theorem dL_law_1550 : decode cL_law 1550 = .ok (.iaload, 1) := by decide +kernel
theorem dL_law_1551 : decode cL_law 1551 = .ok (.aload_n 3, 1) := by decide +kernel
theorem dL_law_1552 : decode cL_law 1552 = .ok (.invokestatic 175, 3) := by decide +kernel
theorem dL_law_1555 : decode cL_law 1555 = .ok (.istore 5, 2) := by decide +kernel
theorem dL_law_1557 : decode cL_law 1557 = .ok (.aload_n 2, 1) := by decide +kernel
theorem dL_law_1558 : decode cL_law 1558 = .ok (.aload_n 0, 1) := by decide +kernel
theorem dL_law_1559 : decode cL_law 1559 = .ok (.iload 4, 2) := by decide +kernel
theorem dL_law_1561 : decode cL_law 1561 = .ok (.iconst 1, 1) := by decide +kernel
theorem dL_law_1562 : decode cL_law 1562 = .ok (.iadd, 1) := by decide +kernel
theorem dL_law_1563 : decode cL_law 1563 = .ok (.iaload, 1) := by decide +kernel
theorem dL_law_1564 : decode cL_law 1564 = .ok (.aload_n 0, 1) := by decide +kernel
theorem dL_law_1565 : decode cL_law 1565 = .ok (.iload 4, 2) := by decide +kernel
theorem dL_law_1567 : decode cL_law 1567 = .ok (.iconst 2, 1) := by decide +kernel
theorem dL_law_1568 : decode cL_law 1568 = .ok (.iadd, 1) := by decide +kernel
theorem dL_law_1569 : decode cL_law 1569 = .ok (.iaload, 1) := by decide +kernel
theorem dL_law_1570 : decode cL_law 1570 = .ok (.invokevirtual 177, 3) := by decide +kernel
theorem dL_law_1573 : decode cL_law 1573 = .ok (.istore 6, 2) := by decide +kernel
theorem dL_law_1575 : decode cL_law 1575 = .ok (.aload_n 2, 1) := by decide +kernel
theorem dL_law_1576 : decode cL_law 1576 = .ok (.invokevirtual 108, 3) := by decide +kernel
theorem dL_law_1579 : decode cL_law 1579 = .ok (.iload 5, 2) := by decide +kernel
theorem dL_law_1581 : decode cL_law 1581 = .ok (.if_icmp .eq 5, 3) := by decide +kernel
theorem dL_law_1584 : decode cL_law 1584 = .ok (.iconst 0, 1) := by decide +kernel
theorem dL_law_1585 : decode cL_law 1585 = .ok (.ireturn, 1) := by decide +kernel
theorem dL_law_1586 : decode cL_law 1586 = .ok (.iload 5, 2) := by decide +kernel
theorem dL_law_1588 : decode cL_law 1588 = .ok (.ifCond .ne 15, 3) := by decide +kernel
theorem dL_law_1591 : decode cL_law 1591 = .ok (.aload_n 3, 1) := by decide +kernel
theorem dL_law_1592 : decode cL_law 1592 = .ok (.iconst 0, 1) := by decide +kernel
theorem dL_law_1593 : decode cL_law 1593 = .ok (.laload, 1) := by decide +kernel
theorem dL_law_1594 : decode cL_law 1594 = .ok (.iload 6, 2) := by decide +kernel
theorem dL_law_1596 : decode cL_law 1596 = .ok (.i2l, 1) := by decide +kernel
theorem dL_law_1597 : decode cL_law 1597 = .ok (.lcmp, 1) := by decide +kernel
theorem dL_law_1598 : decode cL_law 1598 = .ok (.ifCond .eq 5, 3) := by decide +kernel
theorem dL_law_1601 : decode cL_law 1601 = .ok (.iconst 0, 1) := by decide +kernel
theorem dL_law_1602 : decode cL_law 1602 = .ok (.ireturn, 1) := by decide +kernel
theorem dL_law_1603 : decode cL_law 1603 = .ok (.goto 239, 3) := by decide +kernel
theorem dL_law_1606 : decode cL_law 1606 = .ok (.aload_n 1, 1) := by decide +kernel
theorem dL_law_1607 : decode cL_law 1607 = .ok (.aload_n 0, 1) := by decide +kernel
theorem dL_law_1608 : decode cL_law 1608 = .ok (.iload 4, 2) := by decide +kernel
theorem dL_law_1610 : decode cL_law 1610 = .ok (.iconst 1, 1) := by decide +kernel
theorem dL_law_1611 : decode cL_law 1611 = .ok (.iadd, 1) := by decide +kernel
theorem dL_law_1612 : decode cL_law 1612 = .ok (.iaload, 1) := by decide +kernel
theorem dL_law_1613 : decode cL_law 1613 = .ok (.aload_n 3, 1) := by decide +kernel
theorem dL_law_1614 : decode cL_law 1614 = .ok (.invokestatic 178, 3) := by decide +kernel
theorem dL_law_1617 : decode cL_law 1617 = .ok (.istore 5, 2) := by decide +kernel
theorem dL_law_1619 : decode cL_law 1619 = .ok (.aload_n 2, 1) := by decide +kernel
theorem dL_law_1620 : decode cL_law 1620 = .ok (.aload_n 0, 1) := by decide +kernel
theorem dL_law_1621 : decode cL_law 1621 = .ok (.iload 4, 2) := by decide +kernel
theorem dL_law_1623 : decode cL_law 1623 = .ok (.iconst 1, 1) := by decide +kernel
theorem dL_law_1624 : decode cL_law 1624 = .ok (.iadd, 1) := by decide +kernel
theorem dL_law_1625 : decode cL_law 1625 = .ok (.iaload, 1) := by decide +kernel
theorem dL_law_1626 : decode cL_law 1626 = .ok (.invokevirtual 180, 3) := by decide +kernel
theorem dL_law_1629 : decode cL_law 1629 = .ok (.istore 6, 2) := by decide +kernel
theorem dL_law_1631 : decode cL_law 1631 = .ok (.aload_n 2, 1) := by decide +kernel
theorem dL_law_1632 : decode cL_law 1632 = .ok (.invokevirtual 108, 3) := by decide +kernel
theorem dL_law_1635 : decode cL_law 1635 = .ok (.iload 5, 2) := by decide +kernel
theorem dL_law_1637 : decode cL_law 1637 = .ok (.if_icmp .eq 5, 3) := by decide +kernel
theorem dL_law_1640 : decode cL_law 1640 = .ok (.iconst 0, 1) := by decide +kernel
theorem dL_law_1641 : decode cL_law 1641 = .ok (.ireturn, 1) := by decide +kernel
theorem dL_law_1642 : decode cL_law 1642 = .ok (.iload 5, 2) := by decide +kernel
theorem dL_law_1644 : decode cL_law 1644 = .ok (.ifCond .ne 15, 3) := by decide +kernel
theorem dL_law_1647 : decode cL_law 1647 = .ok (.aload_n 3, 1) := by decide +kernel
theorem dL_law_1648 : decode cL_law 1648 = .ok (.iconst 0, 1) := by decide +kernel
theorem dL_law_1649 : decode cL_law 1649 = .ok (.laload, 1) := by decide +kernel
theorem dL_law_1650 : decode cL_law 1650 = .ok (.iload 6, 2) := by decide +kernel
theorem dL_law_1652 : decode cL_law 1652 = .ok (.i2l, 1) := by decide +kernel
theorem dL_law_1653 : decode cL_law 1653 = .ok (.lcmp, 1) := by decide +kernel
theorem dL_law_1654 : decode cL_law 1654 = .ok (.ifCond .eq 5, 3) := by decide +kernel
theorem dL_law_1657 : decode cL_law 1657 = .ok (.iconst 0, 1) := by decide +kernel
theorem dL_law_1658 : decode cL_law 1658 = .ok (.ireturn, 1) := by decide +kernel
theorem dL_law_1659 : decode cL_law 1659 = .ok (.goto 183, 3) := by decide +kernel
theorem dL_law_1662 : decode cL_law 1662 = .ok (.aload_n 1, 1) := by decide +kernel
theorem dL_law_1663 : decode cL_law 1663 = .ok (.aload_n 0, 1) := by decide +kernel
theorem dL_law_1664 : decode cL_law 1664 = .ok (.iload 4, 2) := by decide +kernel
theorem dL_law_1666 : decode cL_law 1666 = .ok (.iconst 1, 1) := by decide +kernel
theorem dL_law_1667 : decode cL_law 1667 = .ok (.iadd, 1) := by decide +kernel
theorem dL_law_1668 : decode cL_law 1668 = .ok (.iaload, 1) := by decide +kernel
theorem dL_law_1669 : decode cL_law 1669 = .ok (.aload_n 3, 1) := by decide +kernel
theorem dL_law_1670 : decode cL_law 1670 = .ok (.invokestatic 181, 3) := by decide +kernel
theorem dL_law_1673 : decode cL_law 1673 = .ok (.istore 5, 2) := by decide +kernel
theorem dL_law_1675 : decode cL_law 1675 = .ok (.aload_n 2, 1) := by decide +kernel
theorem dL_law_1676 : decode cL_law 1676 = .ok (.aload_n 0, 1) := by decide +kernel
theorem dL_law_1677 : decode cL_law 1677 = .ok (.iload 4, 2) := by decide +kernel
theorem dL_law_1679 : decode cL_law 1679 = .ok (.iconst 1, 1) := by decide +kernel
theorem dL_law_1680 : decode cL_law 1680 = .ok (.iadd, 1) := by decide +kernel
theorem dL_law_1681 : decode cL_law 1681 = .ok (.iaload, 1) := by decide +kernel
theorem dL_law_1682 : decode cL_law 1682 = .ok (.invokevirtual 183, 3) := by decide +kernel
theorem dL_law_1685 : decode cL_law 1685 = .ok (.istore 6, 2) := by decide +kernel
theorem dL_law_1687 : decode cL_law 1687 = .ok (.aload_n 2, 1) := by decide +kernel
theorem dL_law_1688 : decode cL_law 1688 = .ok (.invokevirtual 108, 3) := by decide +kernel
theorem dL_law_1691 : decode cL_law 1691 = .ok (.iload 5, 2) := by decide +kernel
theorem dL_law_1693 : decode cL_law 1693 = .ok (.if_icmp .eq 5, 3) := by decide +kernel
theorem dL_law_1696 : decode cL_law 1696 = .ok (.iconst 0, 1) := by decide +kernel
theorem dL_law_1697 : decode cL_law 1697 = .ok (.ireturn, 1) := by decide +kernel
theorem dL_law_1698 : decode cL_law 1698 = .ok (.iload 5, 2) := by decide +kernel
theorem dL_law_1700 : decode cL_law 1700 = .ok (.ifCond .ne 15, 3) := by decide +kernel
theorem dL_law_1703 : decode cL_law 1703 = .ok (.aload_n 3, 1) := by decide +kernel
theorem dL_law_1704 : decode cL_law 1704 = .ok (.iconst 0, 1) := by decide +kernel
theorem dL_law_1705 : decode cL_law 1705 = .ok (.laload, 1) := by decide +kernel
theorem dL_law_1706 : decode cL_law 1706 = .ok (.iload 6, 2) := by decide +kernel
theorem dL_law_1708 : decode cL_law 1708 = .ok (.i2l, 1) := by decide +kernel
theorem dL_law_1709 : decode cL_law 1709 = .ok (.lcmp, 1) := by decide +kernel
theorem dL_law_1710 : decode cL_law 1710 = .ok (.ifCond .eq 5, 3) := by decide +kernel
theorem dL_law_1713 : decode cL_law 1713 = .ok (.iconst 0, 1) := by decide +kernel
theorem dL_law_1714 : decode cL_law 1714 = .ok (.ireturn, 1) := by decide +kernel
theorem dL_law_1715 : decode cL_law 1715 = .ok (.goto 127, 3) := by decide +kernel
theorem dL_law_1718 : decode cL_law 1718 = .ok (.aload_n 1, 1) := by decide +kernel
theorem dL_law_1719 : decode cL_law 1719 = .ok (.aload_n 0, 1) := by decide +kernel
theorem dL_law_1720 : decode cL_law 1720 = .ok (.iload 4, 2) := by decide +kernel
theorem dL_law_1722 : decode cL_law 1722 = .ok (.iconst 1, 1) := by decide +kernel
theorem dL_law_1723 : decode cL_law 1723 = .ok (.iadd, 1) := by decide +kernel
theorem dL_law_1724 : decode cL_law 1724 = .ok (.iaload, 1) := by decide +kernel
theorem dL_law_1725 : decode cL_law 1725 = .ok (.aload_n 0, 1) := by decide +kernel
theorem dL_law_1726 : decode cL_law 1726 = .ok (.iload 4, 2) := by decide +kernel
theorem dL_law_1728 : decode cL_law 1728 = .ok (.iconst 2, 1) := by decide +kernel
theorem dL_law_1729 : decode cL_law 1729 = .ok (.iadd, 1) := by decide +kernel
theorem dL_law_1730 : decode cL_law 1730 = .ok (.iaload, 1) := by decide +kernel
theorem dL_law_1731 : decode cL_law 1731 = .ok (.aload_n 3, 1) := by decide +kernel
theorem dL_law_1732 : decode cL_law 1732 = .ok (.invokestatic 184, 3) := by decide +kernel
theorem dL_law_1735 : decode cL_law 1735 = .ok (.istore 5, 2) := by decide +kernel
theorem dL_law_1737 : decode cL_law 1737 = .ok (.aload_n 2, 1) := by decide +kernel
theorem dL_law_1738 : decode cL_law 1738 = .ok (.aload_n 0, 1) := by decide +kernel
theorem dL_law_1739 : decode cL_law 1739 = .ok (.iload 4, 2) := by decide +kernel
theorem dL_law_1741 : decode cL_law 1741 = .ok (.iconst 1, 1) := by decide +kernel
theorem dL_law_1742 : decode cL_law 1742 = .ok (.iadd, 1) := by decide +kernel
theorem dL_law_1743 : decode cL_law 1743 = .ok (.iaload, 1) := by decide +kernel
theorem dL_law_1744 : decode cL_law 1744 = .ok (.aload_n 0, 1) := by decide +kernel
theorem dL_law_1745 : decode cL_law 1745 = .ok (.iload 4, 2) := by decide +kernel
theorem dL_law_1747 : decode cL_law 1747 = .ok (.iconst 2, 1) := by decide +kernel
theorem dL_law_1748 : decode cL_law 1748 = .ok (.iadd, 1) := by decide +kernel
theorem dL_law_1749 : decode cL_law 1749 = .ok (.iaload, 1) := by decide +kernel
theorem dL_law_1750 : decode cL_law 1750 = .ok (.invokevirtual 186, 3) := by decide +kernel
theorem dL_law_1753 : decode cL_law 1753 = .ok (.istore 6, 2) := by decide +kernel
theorem dL_law_1755 : decode cL_law 1755 = .ok (.aload_n 2, 1) := by decide +kernel
theorem dL_law_1756 : decode cL_law 1756 = .ok (.invokevirtual 108, 3) := by decide +kernel
theorem dL_law_1759 : decode cL_law 1759 = .ok (.iload 5, 2) := by decide +kernel
theorem dL_law_1761 : decode cL_law 1761 = .ok (.if_icmp .eq 5, 3) := by decide +kernel
theorem dL_law_1764 : decode cL_law 1764 = .ok (.iconst 0, 1) := by decide +kernel
theorem dL_law_1765 : decode cL_law 1765 = .ok (.ireturn, 1) := by decide +kernel
theorem dL_law_1766 : decode cL_law 1766 = .ok (.iload 5, 2) := by decide +kernel
theorem dL_law_1768 : decode cL_law 1768 = .ok (.ifCond .ne 15, 3) := by decide +kernel
theorem dL_law_1771 : decode cL_law 1771 = .ok (.aload_n 3, 1) := by decide +kernel
theorem dL_law_1772 : decode cL_law 1772 = .ok (.iconst 0, 1) := by decide +kernel
theorem dL_law_1773 : decode cL_law 1773 = .ok (.laload, 1) := by decide +kernel
theorem dL_law_1774 : decode cL_law 1774 = .ok (.iload 6, 2) := by decide +kernel
theorem dL_law_1776 : decode cL_law 1776 = .ok (.i2l, 1) := by decide +kernel
theorem dL_law_1777 : decode cL_law 1777 = .ok (.lcmp, 1) := by decide +kernel
theorem dL_law_1778 : decode cL_law 1778 = .ok (.ifCond .eq 5, 3) := by decide +kernel
theorem dL_law_1781 : decode cL_law 1781 = .ok (.iconst 0, 1) := by decide +kernel
theorem dL_law_1782 : decode cL_law 1782 = .ok (.ireturn, 1) := by decide +kernel
theorem dL_law_1783 : decode cL_law 1783 = .ok (.goto 59, 3) := by decide +kernel
theorem dL_law_1786 : decode cL_law 1786 = .ok (.aload_n 1, 1) := by decide +kernel
theorem dL_law_1787 : decode cL_law 1787 = .ok (.aload_n 0, 1) := by decide +kernel
theorem dL_law_1788 : decode cL_law 1788 = .ok (.iload 4, 2) := by decide +kernel
theorem dL_law_1790 : decode cL_law 1790 = .ok (.iconst 1, 1) := by decide +kernel
theorem dL_law_1791 : decode cL_law 1791 = .ok (.iadd, 1) := by decide +kernel
theorem dL_law_1792 : decode cL_law 1792 = .ok (.iaload, 1) := by decide +kernel
theorem dL_law_1793 : decode cL_law 1793 = .ok (.aload_n 3, 1) := by decide +kernel
theorem dL_law_1794 : decode cL_law 1794 = .ok (.invokestatic 187, 3) := by decide +kernel
theorem dL_law_1797 : decode cL_law 1797 = .ok (.istore 5, 2) := by decide +kernel
theorem dL_law_1799 : decode cL_law 1799 = .ok (.aload_n 2, 1) := by decide +kernel
theorem dL_law_1800 : decode cL_law 1800 = .ok (.aload_n 0, 1) := by decide +kernel
theorem dL_law_1801 : decode cL_law 1801 = .ok (.iload 4, 2) := by decide +kernel
theorem dL_law_1803 : decode cL_law 1803 = .ok (.iconst 1, 1) := by decide +kernel
theorem dL_law_1804 : decode cL_law 1804 = .ok (.iadd, 1) := by decide +kernel
theorem dL_law_1805 : decode cL_law 1805 = .ok (.iaload, 1) := by decide +kernel
theorem dL_law_1806 : decode cL_law 1806 = .ok (.invokevirtual 189, 3) := by decide +kernel
theorem dL_law_1809 : decode cL_law 1809 = .ok (.istore 6, 2) := by decide +kernel
theorem dL_law_1811 : decode cL_law 1811 = .ok (.aload_n 2, 1) := by decide +kernel
theorem dL_law_1812 : decode cL_law 1812 = .ok (.invokevirtual 108, 3) := by decide +kernel
theorem dL_law_1815 : decode cL_law 1815 = .ok (.iload 5, 2) := by decide +kernel
theorem dL_law_1817 : decode cL_law 1817 = .ok (.if_icmp .eq 5, 3) := by decide +kernel
theorem dL_law_1820 : decode cL_law 1820 = .ok (.iconst 0, 1) := by decide +kernel
theorem dL_law_1821 : decode cL_law 1821 = .ok (.ireturn, 1) := by decide +kernel
theorem dL_law_1822 : decode cL_law 1822 = .ok (.iload 5, 2) := by decide +kernel
theorem dL_law_1824 : decode cL_law 1824 = .ok (.ifCond .ne 15, 3) := by decide +kernel
theorem dL_law_1827 : decode cL_law 1827 = .ok (.aload_n 3, 1) := by decide +kernel
theorem dL_law_1828 : decode cL_law 1828 = .ok (.iconst 0, 1) := by decide +kernel
theorem dL_law_1829 : decode cL_law 1829 = .ok (.laload, 1) := by decide +kernel
theorem dL_law_1830 : decode cL_law 1830 = .ok (.iload 6, 2) := by decide +kernel
theorem dL_law_1832 : decode cL_law 1832 = .ok (.i2l, 1) := by decide +kernel
theorem dL_law_1833 : decode cL_law 1833 = .ok (.lcmp, 1) := by decide +kernel
theorem dL_law_1834 : decode cL_law 1834 = .ok (.ifCond .eq 5, 3) := by decide +kernel
theorem dL_law_1837 : decode cL_law 1837 = .ok (.iconst 0, 1) := by decide +kernel
theorem dL_law_1838 : decode cL_law 1838 = .ok (.ireturn, 1) := by decide +kernel
theorem dL_law_1839 : decode cL_law 1839 = .ok (.goto 3, 3) := by decide +kernel
theorem dL_law_1842 : decode cL_law 1842 = .ok (.iinc 4 8, 3) := by decide +kernel
theorem dL_law_1845 : decode cL_law 1845 = .ok (.goto (-1822), 3) := by decide +kernel
theorem dL_law_1848 : decode cL_law 1848 = .ok (.iconst 1, 1) := by decide +kernel
theorem dL_law_1849 : decode cL_law 1849 = .ok (.ireturn, 1) := by decide +kernel
end
section
/-! THE CORE: a small pure machine over a heap that is a function; its rules (XR), its least predicate (WP), its methods by depth (Sp) -/
/-- what a cell holds: an object (its class's place in vwCl, its fields), an array of int, boolean, long, Object -/
abbrev HE : Type := (Nat × List Value) ⊕ (Nat × (Nat → Int32)) ⊕ (Nat × (Nat → Int32)) ⊕ (Nat × (Nat → Int64)) ⊕ (Nat × (Nat → Option Nat))
def hO (c : Nat) (fs : List Value) : HE := .inl (c, fs)
def hI (n : Nat) (f : Nat → Int32) : HE := .inr (.inl (n, f))
def hZ (n : Nat) (f : Nat → Int32) : HE := .inr (.inr (.inl (n, f)))
def hJ (n : Nat) (f : Nat → Int64) : HE := .inr (.inr (.inr (.inl (n, f))))
def hR (n : Nat) (f : Nat → Option Nat) : HE := .inr (.inr (.inr (.inr (n, f))))
abbrev HP : Type := Nat → Option HE
def hu (G : HP) (a : Nat) (e : HE) : HP := fun j => if j = a then some e else G j
theorem hu_s {G : HP} {a : Nat} {e : HE} : hu G a e a = some e := if_pos rfl
theorem hu_n {G : HP} {a b : Nat} {e : HE} (h : b ≠ a) : hu G a e b = G b := if_neg h
/-- the classes of the four kinds of array: int, boolean, long, Object -/
abbrev C4 : Type := ClassId × ClassId × ClassId × ClassId
def eW (c : C4) : HE → va_E
  | .inl o => .inr o
  | .inr (.inl (n, f)) => .inl (c.1, n, .inl f)
  | .inr (.inr (.inl (n, f))) => .inl (c.2.1, n, .inl f)
  | .inr (.inr (.inr (.inl (n, f)))) => .inl (c.2.2.1, n, .inr (.inl f))
  | .inr (.inr (.inr (.inr (n, f)))) => .inl (c.2.2.2, n, .inr (.inr (.inr (.inr f))))
def ty4 (c : C4) : List (ClassId × FieldType) := [(c.1, .int), (c.2.1, .boolean), (c.2.2.1, .long), (c.2.2.2, .object "java/lang/Object")]
/-- an outcome: a value (none: void), or the class that was thrown -/
abbrev Oc : Type := Option Value ⊕ String
abbrev Ps : Type := Oc → HP → Prop
abbrev XS : Type := Nat → List (Option Value) → List Value → HP → Nat → Nat → Prop
abbrev SPt : Type := MethodName → Nat → Nat → List Value → HP → Ps → Prop
/-- constants of a run: the empty list's array, the Class object of Object[], the script (address, length, ints) -/
abbrev XE : Type := Nat × Nat × Nat × Nat × (Nat → Int32)
/-- a method: its name, bytes, return type, handlers -/
abbrev ME : Type := MethodName × ByteArray × Option FieldType × List (Nat × Nat × Nat × Nat)
/-- the words that stay with the machine -/
def kW : Jvm.Cond → Bool
  | .castable _ _ => true
  | .declares _ => true
  | .methodLinkNest _ _ _ _ => true
  | w => goodWord w
def tW (w : Jvm.Cond) : Prop := w ∈ lw_tbl ∧ kW w = true
def cmpP (o : Jvm.ClassFile.Cond) (x y : Int32) : Prop := match o with
  | .eq => x = y
  | .ne => ¬ x = y
  | .lt => x < y
  | .ge => y ≤ x
  | .gt => y < x
  | .le => x ≤ y
def lget (ls : List (Option Value)) (i : Nat) : Option Value := match ls[i]? with
  | some (some v) => some v
  | _ => none
/-- instructions that touch the operand stack alone: their length and what the stack is behind them -/
def pst (i : Instr) (st : List Value) : Option (Nat × List Value) := match i, st with
  | .iconst n, st => some (1, .int (Int32.ofInt n) :: st)
  | .lconst n, st => some (1, .long (Int64.ofNat (n : Nat)) :: st)
  | .bipush n, st => some (2, .int (Int8.ofInt n).toInt32 :: st)
  | .sipush n, st => some (3, .int (Int16.ofInt n).toInt32 :: st)
  | .aconst_null, st => some (1, .null :: st)
  | .iadd, .int y :: .int x :: st => some (1, .int (x + y) :: st)
  | .isub, .int y :: .int x :: st => some (1, .int (x - y) :: st)
  | .imul, .int y :: .int x :: st => some (1, .int (x * y) :: st)
  | .ishr, .int y :: .int x :: st => some (1, .int (x >>> (y &&& 31)) :: st)
  | .iand, .int y :: .int x :: st => some (1, .int (x &&& y) :: st)
  | .i2l, .int x :: st => some (1, .long x.toInt64 :: st)
  | .lcmp, .long y :: .long x :: st => some (1, .int (lg_cmp x y) :: st)
  | _, _ => none

def lst (i : Instr) (v : Value) : Option (Nat × Nat) := match i, v with
  | .iload_n k, .int _ => some (1, (k : Nat))
  | .iload k, .int _ => some (2, k)
  | .aload_n k, .ref _ => some (1, (k : Nat))
  | .aload k, .ref _ => some (2, k)
  | .aload_n k, .null => some (1, (k : Nat))
  | .aload k, .null => some (2, k)
  | _, _ => none
def sst (i : Instr) (v : Value) : Option (Nat × Nat) := match i, v with
  | .istore_n k, .int _ => some (1, (k : Nat))
  | .istore k, .int _ => some (2, k)
  | .astore_n k, .ref _ => some (1, (k : Nat))
  | .astore k, .ref _ => some (2, k)
  | .astore_n k, .null => some (1, (k : Nat))
  | .astore k, .null => some (2, k)
  | _, _ => none
def v1 (v : Value) : Prop := v.category = 1
/-- a class of vwCl with what the tables say of it -/
def CLok (ci : Nat) (q : vw_C) (ty : Nat → FieldType) : Prop := vwCl[ci]? = some q ∧ (∀ w ∈ u_ws q.1 q.2.1 q.2.2, tW w) ∧ (∀ k, k < q.2.2 → parseFieldDescriptor (q.2.1 k).2.2.1 = some (ty k)) ∧ (∀ a, a < q.2.2 → ∀ b, b < q.2.2 → a ≠ b → (q.2.1 a).2.1 ≠ (q.2.1 b).2.1) ∧ tW (.instantiable q.1 q.2.2) ∧ tW (.initialized q.1)
/-- entry idx of class own's file is field kf of class ci, of type t; 'w': it may be written by a method of that name -/
def FL (own : String) (idx ci kf : Nat) (t : FieldType) (fin : Bool) (decl : String) : Prop := ∃ (q : vw_C) (ty : Nat → FieldType) (ref : String), CLok ci q ty ∧ kf < q.2.2 ∧ tW (.fieldLink own idx ref (q.2.1 kf).2.1 (q.2.1 kf).2.2.1) ∧ (ref = (q.2.1 kf).1 ∨ tW (.sameField ref (q.2.1 kf).1 (q.2.1 kf).2.1 (q.2.1 kf).2.2.1)) ∧ ty kf = t ∧ (q.2.1 kf).2.2.2 = fin ∧ (q.2.1 kf).1 = decl
/-- entry idx is class ci, fresh objects of it hold fs -/
def NWc (own : String) (idx ci : Nat) (fs : List Value) : Prop := ∃ (q : vw_C) (ty : Nat → FieldType), CLok ci q ty ∧ tW (.classLink own idx q.1) ∧ (∀ j, j < q.2.2 → defaultValue (ty j) = vp_V fs j) ∧ fs.length = q.2.2
/-- pairs of exceptions' classes of which the first is no second -/
def nc_list : List (String × String) := [("java/lang/IllegalArgumentException", "java/lang/IllegalStateException"), ("java/lang/IllegalArgumentException", "java/lang/IndexOutOfBoundsException"), ("java/lang/IllegalStateException", "java/lang/IllegalArgumentException"), ("java/lang/IllegalStateException", "java/lang/IndexOutOfBoundsException"), ("java/lang/IndexOutOfBoundsException", "java/lang/IllegalArgumentException"), ("java/lang/IndexOutOfBoundsException", "java/lang/IllegalStateException")]
def HF (own : String) (pc : Nat) (X : String) : List (Nat × Nat × Nat × Nat) → Option Nat → Prop
  | [], r => r = none
  | q :: hs, r => ((decide (q.1 ≤ pc) && decide (pc < q.2.1)) = false ∧ HF own pc X hs r) ∨ ((decide (q.1 ≤ pc) && decide (pc < q.2.1)) = true ∧ q.2.2.2 ≠ 0 ∧ ∃ nm : String, tW (.classLink own q.2.2.2 nm) ∧ ((tW (.castable X nm) ∧ r = some q.2.2.1) ∨ ((X, nm) ∈ nc_list ∧ HF own pc X hs r)))
def codeW (y : MethodName) (cc : ByteArray) (maxL : Nat) (ret : Option FieldType) (hh : List (Nat × Nat × Nat × Nat)) : Jvm.Cond := match hh with
  | [] => .code y cc maxL ret
  | h :: hs => .codeWith y cc maxL ret (h :: hs)
def Body (y : MethodName) (cc : ByteArray) (maxL : Nat) (ret : Option FieldType) (hh : List (Nat × Nat × Nat × Nat)) : Prop := tW (codeW y cc maxL ret hh) ∧ plainName y.cls = true ∧ maxL ≤ 11 ∧ (hh = [] ∨ y.cls = "KerbHoursLaw") ∧ (y.name = "<init>" → ret = none)
def nmh (y : MethodName) (n : Nat) : Prop := (y.cls ≠ "java/lang/invoke/MethodHandle" ∧ y.cls ≠ "java/lang/invoke/VarHandle") ∧ (parseMethodDescriptor y.desc).map (fun d => d.parameters.length) = some n
/-- entry idx of own's file is method y, of n arguments: static; an object's; a constructor; 'N': by nest -/
def CLs (own : String) (idx : Nat) (y : MethodName) (n : Nat) : Prop := nmh y n ∧ tW (.methodLink own idx y) ∧ tW (.static y) ∧ tW (.initialized y.cls)
def CLsN (own : String) (idx : Nat) (y : MethodName) (n : Nat) : Prop := nmh y n ∧ (∃ host : String, tW (.methodLinkNest own idx y host)) ∧ tW (.static y) ∧ tW (.initialized y.cls) ∧ y.cls ≠ "KerbHoursLaw"
def CLv (own : String) (idx : Nat) (y : MethodName) (n : Nat) (ci : Nat) : Prop := nmh y n ∧ tW (.methodLink own idx y) ∧ tW (.instanceMethod y) ∧ tW (.initialized y.cls) ∧ y.cls ≠ "KerbHoursLaw" ∧ ∃ q : vw_C, vwCl[ci]? = some q ∧ tW (.selects q.1 y y)
def CLi (own : String) (idx : Nat) (y : MethodName) (n : Nat) : Prop := nmh y n ∧ tW (.methodLink own idx y) ∧ tW (.instanceMethod y) ∧ tW (.initialized y.cls) ∧ y.cls ≠ "KerbHoursLaw" ∧ y.name = "<init>"
def CLiN (own : String) (idx : Nat) (y : MethodName) (n : Nat) : Prop := nmh y n ∧ (∃ host : String, tW (.methodLinkNest own idx y host)) ∧ tW (.instanceMethod y) ∧ tW (.initialized y.cls) ∧ y.cls ≠ "KerbHoursLaw" ∧ y.name = "<init>"
/-- the texts that are thrown: class, entry, text -/
def str_list : List (String × Nat × String) := [("KerbHours", 117, "no such sign"), ("KerbHours", 150, "no such home"), ("KerbHours", 160, "no such permit"), ("KerbHours", 189, "it does not stand"), ("KerbHours", 268, "no such fact of a fine"), ("KerbHours", 275, "it does not stand, or owes too little"), ("KerbHours", 280, "no such fact of a street"), ("KerbHours", 285, "out of range"), ("KerbHours", 287, "not as things are now"), ("KerbHours", 289, "no such metre"), ("KerbHours", 291, "no such street"), ("KerbHours", 293, "no such car"), ("KerbHours", 295, "no such fine")]
/-- 'throw new X(text)' in class own -/
def TH (own : String) (ik is ic : Nat) (X text : String) : Prop := Bundle.fit X = true ∧ tW (.classLink own ik X) ∧ tW (.initialized X) ∧ (∀ w ∈ vx_atS own ic X ["java/lang/RuntimeException", "java/lang/Exception"], tW w) ∧ (∀ w ∈ Jvm.Cond.classLink own ik X :: Jvm.Cond.initialized X :: vx_atS own ic X ["java/lang/RuntimeException", "java/lang/Exception"], vx_ot w = true) ∧ (own, is, text) ∈ str_list
def cats (st : List Value) : Nat := (st.map fun v => v.category).sum
-- the rules, each for a set S of states
def r_pure (M : ME) (S : XS) : Prop := ∀ pc ls st G k n i len st', decode M.2.1 pc = .ok (i, len) → pst i st = some (len, st') → S (pc + len) ls st' G k n → S pc ls st G k n
def r_load (M : ME) (S : XS) : Prop := ∀ pc ls st G k n i len j v, decode M.2.1 pc = .ok (i, len) → lget ls j = some v → lst i v = some (len, j) → S (pc + len) ls (v :: st) G k n → S pc ls st G k n
def r_store (M : ME) (S : XS) : Prop := ∀ pc ls st G k n i len j v, decode M.2.1 pc = .ok (i, len) → sst i v = some (len, j) → j < ls.length → S (pc + len) (ls.set j (some v)) st G k n → S pc ls (v :: st) G k n
def r_iinc (M : ME) (S : XS) : Prop := ∀ pc ls st G k n j c x, decode M.2.1 pc = .ok (.iinc j c, 3) → lget ls j = some (.int x) → S (pc + 3) (ls.set j (some (.int (x + Int32.ofInt c)))) st G k n → S pc ls st G k n
def r_dup (M : ME) (S : XS) : Prop := ∀ pc ls st G k n v, decode M.2.1 pc = .ok (.dup, 1) → v1 v → S (pc + 1) ls (v :: v :: st) G k n → S pc ls (v :: st) G k n
def r_dupx (M : ME) (S : XS) : Prop := ∀ pc ls st G k n v w, decode M.2.1 pc = .ok (.dup_x1, 1) → v1 v → v1 w → S (pc + 1) ls (v :: w :: v :: st) G k n → S pc ls (v :: w :: st) G k n
def r_dup2 (M : ME) (S : XS) : Prop := ∀ pc ls st G k n v w, decode M.2.1 pc = .ok (.dup2, 1) → v1 v → v1 w → S (pc + 1) ls (v :: w :: v :: w :: st) G k n → S pc ls (v :: w :: st) G k n
def r_pop (M : ME) (S : XS) : Prop := ∀ pc ls st G k n v, decode M.2.1 pc = .ok (.pop, 1) → v1 v → S (pc + 1) ls st G k n → S pc ls (v :: st) G k n
def r_div (M : ME) (S : XS) : Prop := ∀ pc ls st G k n x y, decode M.2.1 pc = .ok (.idiv, 1) → ¬ y = 0 → S (pc + 1) ls (.int (x / y) :: st) G k n → S pc ls (.int y :: .int x :: st) G k n
def r_rem (M : ME) (S : XS) : Prop := ∀ pc ls st G k n x y, decode M.2.1 pc = .ok (.irem, 1) → ¬ y = 0 → S (pc + 1) ls (.int (x - x / y * y) :: st) G k n → S pc ls (.int y :: .int x :: st) G k n
def r_if (M : ME) (S : XS) : Prop := ∀ pc ls st G k n c off (tgt : Nat) x, decode M.2.1 pc = .ok (.ifCond c off, 3) → (pc : Int) + off = (tgt : Int) → (cmpP c x 0 → S tgt ls st G k n) → (¬ cmpP c x 0 → S (pc + 3) ls st G k n) → S pc ls (.int x :: st) G k n
def r_icmp (M : ME) (S : XS) : Prop := ∀ pc ls st G k n c off (tgt : Nat) x y, decode M.2.1 pc = .ok (.if_icmp c off, 3) → (pc : Int) + off = (tgt : Int) → (cmpP c x y → S tgt ls st G k n) → (¬ cmpP c x y → S (pc + 3) ls st G k n) → S pc ls (.int y :: .int x :: st) G k n
def r_goto (M : ME) (S : XS) : Prop := ∀ pc ls st G k n off (tgt : Nat), decode M.2.1 pc = .ok (.goto off, 3) → (pc : Int) + off = (tgt : Int) → S tgt ls st G k n → S pc ls st G k n
def r_nul (M : ME) (S : XS) : Prop := ∀ pc ls st G k n off (tgt : Nat), decode M.2.1 pc = .ok (.ifnull off, 3) → (pc : Int) + off = (tgt : Int) → S tgt ls st G k n → S pc ls (.null :: st) G k n
def r_nulR (M : ME) (S : XS) : Prop := ∀ pc ls st G k n off a, decode M.2.1 pc = .ok (.ifnull off, 3) → S (pc + 3) ls st G k n → S pc ls (.ref a :: st) G k n
def r_non (M : ME) (S : XS) : Prop := ∀ pc ls st G k n off, decode M.2.1 pc = .ok (.ifnonnull off, 3) → S (pc + 3) ls st G k n → S pc ls (.null :: st) G k n
def r_nonR (M : ME) (S : XS) : Prop := ∀ pc ls st G k n off (tgt : Nat) a, decode M.2.1 pc = .ok (.ifnonnull off, 3) → (pc : Int) + off = (tgt : Int) → S tgt ls st G k n → S pc ls (.ref a :: st) G k n
def r_aeq (M : ME) (S : XS) : Prop := ∀ pc ls st G k n off (tgt : Nat) (a b : Nat), decode M.2.1 pc = .ok (.if_acmp .eq off, 3) → (pc : Int) + off = (tgt : Int) → (a = b → S tgt ls st G k n) → (¬ a = b → S (pc + 3) ls st G k n) → S pc ls (.ref b :: .ref a :: st) G k n
def r_ane (M : ME) (S : XS) : Prop := ∀ pc ls st G k n off (tgt : Nat) (a b : Nat), decode M.2.1 pc = .ok (.if_acmp .ne off, 3) → (pc : Int) + off = (tgt : Int) → (¬ a = b → S tgt ls st G k n) → (a = b → S (pc + 3) ls st G k n) → S pc ls (.ref b :: .ref a :: st) G k n
def r_swIn (M : ME) (S : XS) : Prop := ∀ pc ls st G k n dflt lo hi offs len x off (tgt : Nat), decode M.2.1 pc = .ok (.tableswitch dflt lo hi offs, len) → ¬ x.toInt < lo → ¬ hi < x.toInt → offs[(x.toInt - lo).toNat]? = some off → (pc : Int) + off = (tgt : Int) → S tgt ls st G k n → S pc ls (.int x :: st) G k n
def r_swOut (M : ME) (S : XS) : Prop := ∀ pc ls st G k n dflt lo hi offs len x (tgt : Nat), decode M.2.1 pc = .ok (.tableswitch dflt lo hi offs, len) → (x.toInt < lo ∨ hi < x.toInt) → (pc : Int) + dflt = (tgt : Int) → S tgt ls st G k n → S pc ls (.int x :: st) G k n
def r_ldc (M : ME) (S : XS) : Prop := ∀ pc ls st G k n i v, decode M.2.1 pc = .ok (.ldc i, 2) → tW (.constant M.1.cls i v) → S (pc + 2) ls (.int v :: st) G k n → S pc ls st G k n
def r_ldcw (M : ME) (S : XS) : Prop := ∀ pc ls st G k n i v, decode M.2.1 pc = .ok (.ldc_w i, 3) → tW (.constant M.1.cls i v) → S (pc + 3) ls (.int v :: st) G k n → S pc ls st G k n
-- the heap
def r_get (M : ME) (S : XS) : Prop := ∀ pc ls st G k n i ci kf t fin de a fs v, decode M.2.1 pc = .ok (.getfield i, 3) → FL M.1.cls i ci kf t fin de → G a = some (hO ci fs) → fs[kf]? = some v → S (pc + 3) ls (v :: st) G k n → S pc ls (.ref a :: st) G k n
def r_put (M : ME) (S : XS) : Prop := ∀ pc ls st G k n i ci kf t fin de a fs v, decode M.2.1 pc = .ok (.putfield i, 3) → FL M.1.cls i ci kf t fin de → (fin = false ∨ (fin = true ∧ M.1.name = "<init>" ∧ de = M.1.cls)) → G a = some (hO ci fs) → kf < fs.length → narrow t v = v → fits t v = true → S (pc + 3) ls st (hu G a (hO ci (fs.set kf v))) k n → S pc ls (v :: .ref a :: st) G k n
def r_new (M : ME) (mc ms : Nat) (S : XS) : Prop := ∀ pc ls st G k n i ci fs, decode M.2.1 pc = .ok (.new i, 3) → NWc M.1.cls i ci fs → k + 1 ≤ mc → n + fs.length ≤ ms → (∀ a, G a = none → S (pc + 3) ls (.ref a :: st) (hu G a (hO ci fs)) (k + 1) (n + fs.length)) → S pc ls st G k n
def arZ (i : ArrayType) (N : Nat) : Option HE := match i with
  | .int => some (hI N (fun _ => 0))
  | .boolean => some (hZ N (fun _ => 0))
  | .long => some (hJ N (fun _ => 0))
  | _ => none
def r_newA (M : ME) (mc ms : Nat) (S : XS) : Prop := ∀ pc ls st G k n i x N e, decode M.2.1 pc = .ok (.newarray i, 2) → tW (.arrayClass (newarray.typeOf i)) → arZ i N = some e → ¬ x < 0 → x.toNatClampNeg = N → N ≤ 1000000 → k + 1 ≤ mc → n + N ≤ ms → (∀ a, G a = none → S (pc + 2) ls (.ref a :: st) (hu G a e) (k + 1) (n + N)) → S pc ls (.int x :: st) G k n
def r_newO (M : ME) (mc ms : Nat) (S : XS) : Prop := ∀ pc ls st G k n i x N, decode M.2.1 pc = .ok (.anewarray i, 3) → tW (.classLink M.1.cls i "java/lang/Object") → ¬ x < 0 → x.toNatClampNeg = N → N ≤ 1000000 → k + 1 ≤ mc → n + N ≤ ms → (∀ a, G a = none → S (pc + 3) ls (.ref a :: st) (hu G a (hR N (fun _ => none))) (k + 1) (n + N)) → S pc ls (.int x :: st) G k n
def r_iald (M : ME) (S : XS) : Prop := ∀ pc ls st G k n a N f i, decode M.2.1 pc = .ok (.iaload, 1) → G a = some (hI N f) → vp_in i N → S (pc + 1) ls (.int (f i.toNatClampNeg) :: st) G k n → S pc ls (.int i :: .ref a :: st) G k n
def r_zald (M : ME) (S : XS) : Prop := ∀ pc ls st G k n a N f i, decode M.2.1 pc = .ok (.baload, 1) → G a = some (hZ N f) → vp_in i N → S (pc + 1) ls (.int (f i.toNatClampNeg) :: st) G k n → S pc ls (.int i :: .ref a :: st) G k n
def r_lald (M : ME) (S : XS) : Prop := ∀ pc ls st G k n a N f i, decode M.2.1 pc = .ok (.laload, 1) → G a = some (hJ N f) → vp_in i N → S (pc + 1) ls (.long (f i.toNatClampNeg) :: st) G k n → S pc ls (.int i :: .ref a :: st) G k n
def r_aald (M : ME) (S : XS) : Prop := ∀ pc ls st G k n a N f i, decode M.2.1 pc = .ok (.aaload, 1) → G a = some (hR N f) → vp_in i N → S (pc + 1) ls (va_rf (f i.toNatClampNeg) :: st) G k n → S pc ls (.int i :: .ref a :: st) G k n
def r_iast (M : ME) (S : XS) : Prop := ∀ pc ls st G k n a N f i x, decode M.2.1 pc = .ok (.iastore, 1) → G a = some (hI N f) → vp_in i N → S (pc + 1) ls st (hu G a (hI N (va_up f i.toNatClampNeg x))) k n → S pc ls (.int x :: .int i :: .ref a :: st) G k n
def r_zast (M : ME) (S : XS) : Prop := ∀ pc ls st G k n a N f i x, decode M.2.1 pc = .ok (.bastore, 1) → G a = some (hZ N f) → vp_in i N → vp_nar .boolean x = x → S (pc + 1) ls st (hu G a (hZ N (va_up f i.toNatClampNeg x))) k n → S pc ls (.int x :: .int i :: .ref a :: st) G k n
def r_last (M : ME) (S : XS) : Prop := ∀ pc ls st G k n a N f i x, decode M.2.1 pc = .ok (.lastore, 1) → G a = some (hJ N f) → vp_in i N → S (pc + 1) ls st (hu G a (hJ N (va_up f i.toNatClampNeg x))) k n → S pc ls (.long x :: .int i :: .ref a :: st) G k n
def r_aast (M : ME) (S : XS) : Prop := ∀ pc ls st G k n a N f i b ci fs q, decode M.2.1 pc = .ok (.aastore, 1) → G a = some (hR N f) → vp_in i N → G b = some (hO ci fs) → vwCl[ci]? = some q → tW (.castable q.1 "java/lang/Object") → S (pc + 1) ls st (hu G a (hR N (va_up f i.toNatClampNeg (some b)))) k n → S pc ls (.ref b :: .int i :: .ref a :: st) G k n
def alen : HE → Option Nat
  | .inl _ => none
  | .inr (.inl (n, _)) => some n
  | .inr (.inr (.inl (n, _))) => some n
  | .inr (.inr (.inr (.inl (n, _)))) => some n
  | .inr (.inr (.inr (.inr (n, _)))) => some n
def r_alen (M : ME) (S : XS) : Prop := ∀ pc ls st G k n a e N, decode M.2.1 pc = .ok (.arraylength, 1) → G a = some e → alen e = some N → S (pc + 1) ls (.int (nI N) :: st) G k n → S pc ls (.ref a :: st) G k n
def r_alen0 (E : XE) (M : ME) (S : XS) : Prop := ∀ pc ls st G k n, decode M.2.1 pc = .ok (.arraylength, 1) → S (pc + 1) ls (.int 0 :: st) G k n → S pc ls (.ref E.1 :: st) G k n
def r_sld (E : XE) (M : ME) (S : XS) : Prop := ∀ pc ls st G k n i, decode M.2.1 pc = .ok (.iaload, 1) → vp_in i E.2.2.2.1 → S (pc + 1) ls (.int (E.2.2.2.2 i.toNatClampNeg) :: st) G k n → S pc ls (.int i :: .ref E.2.2.1 :: st) G k n
def r_slen (E : XE) (M : ME) (S : XS) : Prop := ∀ pc ls st G k n, decode M.2.1 pc = .ok (.arraylength, 1) → S (pc + 1) ls (.int (nI E.2.2.2.1) :: st) G k n → S pc ls (.ref E.2.2.1 :: st) G k n
def r_cast (M : ME) (S : XS) : Prop := ∀ pc ls st G k n i a ci fs q nm, decode M.2.1 pc = .ok (.checkcast i, 3) → tW (.classLink M.1.cls i nm) → G a = some (hO ci fs) → vwCl[ci]? = some q → q.1 = nm → S (pc + 3) ls (.ref a :: st) G k n → S pc ls (.ref a :: st) G k n
def r_gets (E : XE) (M : ME) (S : XS) : Prop := ∀ pc ls st G k n i, decode M.2.1 pc = .ok (.getstatic i, 3) → tW (.fieldLink M.1.cls i "java/util/ArrayList" "DEFAULTCAPACITY_EMPTY_ELEMENTDATA" "[Ljava/lang/Object;") → S (pc + 3) ls (.ref E.1 :: st) G k n → S pc ls st G k n
def r_ldcM (E : XE) (M : ME) (S : XS) : Prop := ∀ pc ls st G k n i, decode M.2.1 pc = .ok (.ldc i, 2) → tW (.classLink M.1.cls i "[Ljava/lang/Object;") → S (pc + 2) ls (.ref E.2.1 :: st) G k n → S pc ls st G k n
def r_getC (E : XE) (d : Nat) (M : ME) (S : XS) : Prop := ∀ pc ls st G k n i a N f, decode M.2.1 pc = .ok (.invokevirtual i, 3) → tW (.methodLink M.1.cls i ⟨"java/lang/Object", "getClass", "()Ljava/lang/Class;"⟩) → 1 ≤ d → cats st ≤ 8 → G a = some (hR N f) → S (pc + 3) ls (.ref E.2.1 :: st) G k n → S pc ls (.ref a :: st) G k n
def r_copy (d : Nat) (M : ME) (S : XS) : Prop := ∀ pc ls st G k n i a b N1 N2 f g L, decode M.2.1 pc = .ok (.invokestatic i, 3) → tW (.methodLink M.1.cls i arraycopyName) → 1 ≤ d → cats st ≤ 8 → a ≠ b → G a = some (hR N1 f) → G b = some (hR N2 g) → L < 2 ^ 31 → L ≤ N1 → L ≤ N2 → (∀ j, j < L → ∀ y, f j = some y → ∃ ci fs q, G y = some (hO ci fs) ∧ vwCl[ci]? = some q ∧ tW (.castable q.1 "java/lang/Object")) → S (pc + 3) ls st (hu G b (hR N2 (va_cpy f g 0 0 L))) k n → S pc ls (.int (nI L) :: .int 0 :: .ref b :: .int 0 :: .ref a :: st) G k n
def r_max (d : Nat) (M : ME) (S : XS) : Prop := ∀ pc ls st G k n i x y, decode M.2.1 pc = .ok (.invokestatic i, 3) → tW (.methodLink M.1.cls i Lib.Math.max.name) → 1 ≤ d → cats st ≤ 8 → S (pc + 3) ls (.int (if x < y then y else x) :: st) G k n → S pc ls (.int y :: .int x :: st) G k n
def r_min (d : Nat) (M : ME) (S : XS) : Prop := ∀ pc ls st G k n i x y, decode M.2.1 pc = .ok (.invokestatic i, 3) → tW (.methodLink M.1.cls i Lib.Math.min.name) → 1 ≤ d → cats st ≤ 8 → S (pc + 3) ls (.int (if y < x then y else x) :: st) G k n → S pc ls (.int y :: .int x :: st) G k n
-- calls
def KT (M : ME) (P : Ps) (S : XS) (pc : Nat) (ls : List (Option Value)) (rest : List Value) (k n : Nat) : Ps := fun oc G => match oc with
  | .inl v => S (pc + 3) ls (v.toList ++ rest) G k n
  | .inr X => (HF M.1.cls pc X M.2.2.2 none ∧ P (.inr X) G) ∨ (∃ h, HF M.1.cls pc X M.2.2.2 (some h) ∧ ∀ q, S h ls [.ref q] G k n)
def r_invS (Φ : SPt) (M : ME) (mc ms : Nat) (P : Ps) (S : XS) : Prop := ∀ pc ls st G k n i y as mc' ms', decode M.2.1 pc = .ok (.invokestatic i, 3) → (CLs M.1.cls i y as.length ∨ CLsN M.1.cls i y as.length) → cats st ≤ 8 → k + mc' ≤ mc → n + ms' ≤ ms → Φ y mc' ms' as G (KT M P S pc ls st (k + mc') (n + ms')) → S pc ls (as.reverse ++ st) G k n
def r_invV (Φ : SPt) (M : ME) (mc ms : Nat) (P : Ps) (S : XS) : Prop := ∀ pc ls st G k n i y b as mc' ms' ci fs, decode M.2.1 pc = .ok (.invokevirtual i, 3) → CLv M.1.cls i y as.length ci → G b = some (hO ci fs) → cats st ≤ 8 → k + mc' ≤ mc → n + ms' ≤ ms → Φ y mc' ms' (.ref b :: as) G (KT M P S pc ls st (k + mc') (n + ms')) → S pc ls (as.reverse ++ .ref b :: st) G k n
def r_invI (Φ : SPt) (M : ME) (mc ms : Nat) (P : Ps) (S : XS) : Prop := ∀ pc ls st G k n i y b as mc' ms', decode M.2.1 pc = .ok (.invokespecial i, 3) → (CLi M.1.cls i y as.length ∨ CLiN M.1.cls i y as.length) → cats st ≤ 8 → k + mc' ≤ mc → n + ms' ≤ ms → Φ y mc' ms' (.ref b :: as) G (KT M P S pc ls st (k + mc') (n + ms')) → S pc ls (as.reverse ++ .ref b :: st) G k n
def r_obj (M : ME) (S : XS) : Prop := ∀ pc ls st G k n i a, decode M.2.1 pc = .ok (.invokespecial i, 3) → tW (.methodLink M.1.cls i Lib.objectInit) → cats st ≤ 8 → S (pc + 3) ls st G k n → S pc ls (.ref a :: st) G k n
-- ends
def r_iret (M : ME) (P : Ps) (S : XS) : Prop := ∀ pc ls G k n v ty, decode M.2.1 pc = .ok (.ireturn, 1) → M.2.2.1 = some ty → narrow ty (.int v) = .int v → P (.inl (some (.int v))) G → S pc ls [.int v] G k n
def r_aret (M : ME) (P : Ps) (S : XS) : Prop := ∀ pc ls G k n v rt, decode M.2.1 pc = .ok (.areturn, 1) → M.2.2.1 = some rt → ((∃ n, rt = .object n) ∨ ∃ t, rt = .array t) → (v = .null ∨ ∃ a, v = .ref a) → P (.inl (some v)) G → S pc ls [v] G k n
def r_vret (M : ME) (P : Ps) (S : XS) : Prop := ∀ pc ls G k n, decode M.2.1 pc = .ok (.return_, 1) → M.2.2.1 = none → P (.inl none) G → S pc ls [] G k n
def r_thr (d : Nat) (M : ME) (mc ms : Nat) (P : Ps) (S : XS) : Prop := ∀ pc ls st G k n ik is ic X text, decode M.2.1 pc = .ok (.new ik, 3) → decode M.2.1 (pc + 3) = .ok (.dup, 1) → ((decode M.2.1 (pc + 4) = .ok (.ldc is, 2) ∧ decode M.2.1 (pc + 6) = .ok (.invokespecial ic, 3) ∧ decode M.2.1 (pc + 9) = .ok (.athrow, 1)) ∨ (decode M.2.1 (pc + 4) = .ok (.ldc_w is, 3) ∧ decode M.2.1 (pc + 7) = .ok (.invokespecial ic, 3) ∧ decode M.2.1 (pc + 10) = .ok (.athrow, 1))) → TH M.1.cls ik is ic X text → M.2.2.2 = [] → 5 ≤ d → cats st ≤ 8 → k + 1 ≤ mc → n + 6 ≤ ms → P (.inr X) G → S pc ls st G k n
def XR1 (M : ME) (S : XS) : Prop := r_pure M S ∧ r_load M S ∧ r_store M S ∧ r_iinc M S ∧ r_dup M S ∧ r_dupx M S ∧ r_dup2 M S ∧ r_pop M S ∧ r_div M S ∧ r_rem M S ∧ r_if M S ∧ r_icmp M S ∧ r_goto M S ∧ r_nul M S ∧ r_nulR M S ∧ r_non M S ∧ r_nonR M S ∧ r_aeq M S ∧ r_ane M S ∧ r_swIn M S ∧ r_swOut M S ∧ r_ldc M S ∧ r_ldcw M S
def XR2 (E : XE) (d : Nat) (M : ME) (mc ms : Nat) (S : XS) : Prop := r_get M S ∧ r_put M S ∧ r_new M mc ms S ∧ r_newA M mc ms S ∧ r_newO M mc ms S ∧ r_iald M S ∧ r_zald M S ∧ r_lald M S ∧ r_aald M S ∧ r_iast M S ∧ r_zast M S ∧ r_last M S ∧ r_aast M S ∧ r_alen M S ∧ r_alen0 E M S ∧ r_sld E M S ∧ r_slen E M S ∧ r_cast M S ∧ r_gets E M S ∧ r_ldcM E M S ∧ r_getC E d M S ∧ r_copy d M S ∧ r_max d M S ∧ r_min d M S
def XR3 (Φ : SPt) (d : Nat) (M : ME) (mc ms : Nat) (P : Ps) (S : XS) : Prop := r_invS Φ M mc ms P S ∧ r_invV Φ M mc ms P S ∧ r_invI Φ M mc ms P S ∧ r_obj M S ∧ r_iret M P S ∧ r_aret M P S ∧ r_vret M P S ∧ r_thr d M mc ms P S
/-- the least set of states that keeps the rules -/
def WP (E : XE) (Φ : SPt) (d : Nat) (M : ME) (mc ms : Nat) (P : Ps) : XS := fun pc ls st G k n => ∀ S : XS, XR1 M S → XR2 E d M mc ms S → XR3 Φ d M mc ms P S → S pc ls st G k n
def enL (as : List Value) (maxL : Nat) : List (Option Value) := as.map some ++ List.replicate (maxL - as.length) none
/-- method y called with as in G comes to an end with P, by calls at most d deep, making at most mc cells of ms slots -/
def Sp (E : XE) : Nat → SPt
  | 0 => fun _ _ _ _ _ _ => False
  | d + 1 => fun y mc ms as G P => ∃ cc maxL ret hh, Body y cc maxL ret hh ∧ (∀ v ∈ as, v1 v) ∧ as.length ≤ maxL ∧ WP E (Sp E d) d (y, cc, ret, hh) mc ms P 0 (enL as maxL) [] G 0 0
end
section
/-! SOUNDNESS of the core: the machine does what the rules say -/
theorem kW_use {w : Jvm.Cond} (h : kW w = true) {args : Array Value} {s : State} (hb : w.before #[] s = true) : w.before args s = true := by
  cases w <;> first
    | exact word_at (State.WarmedH.refl s) (good_of_word h) hb
    | exact va_any rfl hb
theorem kW_warm {w : Jvm.Cond} (h : kW w = true) {s U : State} (hW : s.WarmedH U.vm) (hb : w.before #[] s = true) : w.before #[] U = true := by
  cases w <;> first
    | exact word_at hW (good_of_word h) hb
    | exact va_Nw.warmC hW hb
    | exact va_Nw.warmD hW hb
    | exact va_Nw.warmM hW hb
/-- what stays with the machine through the whole run -/
def KS (D : va_G) (c4 : C4) (A : Nat → Prop) (E : XE) (s : State) (H : Heap) : Prop :=
  (∀ w, tW w → w.before #[] s = true) ∧ va_K D vwCl (ty4 c4) s ∧
  va_Z "java/util/ArrayList" "DEFAULTCAPACITY_EMPTY_ELEMENTDATA" "[Ljava/lang/Object;" (.ref E.1) A s H ∧ va_T (.object "java/lang/Object") E.1 0 (fun _ => .null) A s H ∧
  vx_Zq Bundle.tN "UNASSIGNED_STACK" Bundle.steD A s H ∧ vx_Zq Bundle.tN "SUPPRESSED_SENTINEL" Bundle.listD A s H ∧
  va_Mi "[Ljava/lang/Object;" E.2.1 s ∧ (∀ q ∈ str_list, ∃ sa : Nat, vk_R q.1 q.2.1 q.2.2 sa s) ∧ va_AO "java/lang/Object" s ∧ (∀ q ∈ nc_list, va_Nc q.1 q.2 s) ∧
  va_X E.2.2.1 E.2.2.2.1 E.2.2.2.2 s H ∧ ¬ A E.2.2.1 ∧ E.2.2.1 < H.size ∧ (∀ q, H.size ≤ q → A q)
theorem KS.moved {D : va_G} {c4 : C4} {A : Nat → Prop} {E : XE} {s U : State} {H H1 : Heap} (hW : s.WarmedH U.vm) (hz : H.size ≤ H1.size) (hq : ∀ a : Nat, a < H.size → ¬ A a → H1[a]? = H[a]?) (h : KS D c4 A E s H) : KS D c4 A E U H1 := by
  obtain ⟨h1, h2, h3, h4, h5, h6, h7, h8, h9, h10, h11, h12, h13, h14⟩ := h
  exact ⟨fun w hw => kW_warm hw.2 hW (h1 w hw), va_K.moved hW.alike h2, (va_Z.moved hW.alike h3).kept hq, (va_T.moved hW.alike h4).kept hq, (vx_Zq.moved hW.alike h5).kept hq, (vx_Zq.moved hW.alike h6).kept hq, va_Mi.moved hW.alike h7, fun q hm => by obtain ⟨sa, h⟩ := h8 q hm; exact ⟨sa, vk_R.warm hW h⟩, va_AO.moved hW.alike h9, fun q hm => va_Nc.moved hW.alike (h10 q hm), (va_X.moved hW.alike h11).kept (hq _ h13 h12), h12, Nat.lt_of_lt_of_le h13 hz, fun q h => h14 q (Nat.le_trans hz h)⟩
/-- the heap H holds the pure heap G -/
def Rep (D : va_G) (c4 : C4) (A : Nat → Prop) (G : HP) (H : Heap) : Prop := ∃ ws : va_W, va_P D vwCl ws H ∧ va_D A ws ∧ (∀ a e, G a = some e → ∃ k : Nat, ws[k]? = some (a, eW c4 e)) ∧ ∀ (k : Nat) (q : Nat × va_E), ws[k]? = some q → G q.1 ≠ none
theorem Rep.kept {D : va_G} {c4 : C4} {A : Nat → Prop} {G : HP} {H H1 : Heap} (h : Rep D c4 A G H) (hq : ∀ q : Nat, q < H.size → H1[q]? = H[q]?) : Rep D c4 A G H1 := by
  obtain ⟨ws, h1, h2, h3, h4⟩ := h
  exact ⟨ws, h1.kept fun k q hk => hq q.1 (h1 k q hk).lt, h2, h3, h4⟩
/-- the same cells, one of them anew -/
theorem rep_set {c4 : C4} {A : Nat → Prop} {G : HP} {ws : va_W} {a k0 : Nat} {e0 e : HE} (h2 : va_D A ws) (h3 : ∀ a e, G a = some e → ∃ k : Nat, ws[k]? = some (a, eW c4 e)) (h4 : ∀ (k : Nat) (q : Nat × va_E), ws[k]? = some q → G q.1 ≠ none) (hk : ws[k0]? = some (a, eW c4 e0)) :
    (∀ b e', hu G a e b = some e' → ∃ k : Nat, (ws.set k0 (a, eW c4 e))[k]? = some (b, eW c4 e')) ∧ ∀ (k : Nat) (q : Nat × va_E), (ws.set k0 (a, eW c4 e))[k]? = some q → hu G a e q.1 ≠ none := by
  have hl := (List.getElem?_eq_some_iff.mp hk).1
  refine ⟨fun b e' hb => ?_, fun k q hq => ?_⟩
  · by_cases hab : b = a
    · subst hab
      rw [hu_s] at hb
      cases hb
      exact ⟨k0, List.getElem?_set_self hl⟩
    · rw [hu_n hab] at hb
      obtain ⟨k, h⟩ := h3 b e' hb
      refine ⟨k, ?_⟩
      rw [List.getElem?_set_ne]
      · exact h
      · intro z
        subst z
        rw [hk] at h
        exact hab (Prod.mk.inj (Option.some.inj h)).1.symm
  · by_cases hkk : k0 = k
    · subst hkk
      rw [List.getElem?_set_self hl] at hq
      cases hq
      rw [hu_s]
      exact fun z => nomatch z
    · rw [List.getElem?_set_ne hkk] at hq
      by_cases hab : q.1 = a
      · rw [hab, hu_s]; exact fun z => nomatch z
      · rw [hu_n hab]; exact h4 k q hq
/-- the same cells and a new one -/
theorem rep_push {c4 : C4} {G : HP} {ws : va_W} {a : Nat} {e : HE} (h3 : ∀ a e, G a = some e → ∃ k : Nat, ws[k]? = some (a, eW c4 e)) (h4 : ∀ (k : Nat) (q : Nat × va_E), ws[k]? = some q → G q.1 ≠ none) :
    (∀ b e', hu G a e b = some e' → ∃ k : Nat, (ws ++ [(a, eW c4 e)])[k]? = some (b, eW c4 e')) ∧ ∀ (k : Nat) (q : Nat × va_E), (ws ++ [(a, eW c4 e)])[k]? = some q → hu G a e q.1 ≠ none := by
  refine ⟨fun b e' hb => ?_, fun k q hq => ?_⟩
  · by_cases hab : b = a
    · subst hab
      rw [hu_s] at hb
      cases hb
      exact ⟨ws.length, by rw [List.getElem?_append_right (Nat.le_refl _), Nat.sub_self]; rfl⟩
    · rw [hu_n hab] at hb
      obtain ⟨k, h⟩ := h3 b e' hb
      exact ⟨k, by rw [List.getElem?_append_left (List.getElem?_eq_some_iff.mp h).1]; exact h⟩
  · by_cases hab : q.1 = a
    · rw [hab, hu_s]; exact fun z => nomatch z
    · rw [hu_n hab]
      by_cases hl : k < ws.length
      · rw [List.getElem?_append_left hl] at hq
        exact h4 k q hq
      · rw [List.getElem?_append_right (by omega)] at hq
        have hz : k - ws.length < 1 := (List.getElem?_eq_some_iff.mp hq).1
        rw [show k - ws.length = 0 by omega] at hq
        cases hq
        exact absurd rfl hab
theorem rep_none {D : va_G} {c4 : C4} {A : Nat → Prop} {G : HP} {ws : va_W} {a : Nat} {e : va_E} (h2 : va_D A (ws ++ [(a, e)])) (h3 : ∀ a e, G a = some e → ∃ k : Nat, ws[k]? = some (a, eW c4 e)) : G a = none := by
  cases hg : G a with
  | none => rfl
  | some e' =>
    obtain ⟨k, h⟩ := h3 a e' hg
    have hl := (List.getElem?_eq_some_iff.mp h).1
    have := h2.1 k ws.length (a, eW c4 e') (a, e) (by rw [List.getElem?_append_left hl]; exact h) (by rw [List.getElem?_append_right (Nat.le_refl _), Nat.sub_self]; rfl) rfl
    omega
/-- the frame's locals -/
def LR (arr : Array Slot) (nL : Nat) (ls : List (Option Value)) : Prop := ls.length = nL ∧ arr.size = nL ∧ lv_wf arr ∧ (∀ (i : Nat) (v : Value), ls[i]? = some (some v) → arr[i]? = some (.val v) ∧ v1 v)
def lvO (ls : List (Option Value)) : List (Nat × Value) := (List.range ls.length).filterMap fun i => (lget ls i).map fun v => (i, v)
theorem lget_some {ls : List (Option Value)} {i : Nat} {v : Value} (h : lget ls i = some v) : ls[i]? = some (some v) := by
  unfold lget at h
  split at h
  · next v' hv => cases h; exact hv
  · cases h
theorem lget_of {ls : List (Option Value)} {i : Nat} {v : Value} (h : ls[i]? = some (some v)) : lget ls i = some v := by
  unfold lget; rw [h]
theorem LR.has {arr : Array Slot} {nL : Nat} {ls : List (Option Value)} (h : LR arr nL ls) : lv_has arr nL (lvO ls) := by
  refine ⟨h.2.1, h.2.2.1, fun q hq => ?_⟩
  obtain ⟨i, -, hi⟩ := List.mem_filterMap.mp hq
  cases hg : lget ls i with
  | none => rw [hg] at hi; cases hi
  | some v =>
    rw [hg] at hi
    cases hi
    exact (h.2.2.2 i v (lget_some hg)).1
theorem LR.get {arr : Array Slot} {nL : Nat} {ls : List (Option Value)} (h : LR arr nL ls) {i : Nat} {v : Value} (hi : lget ls i = some v) : arr[i]? = some (.val v) := (h.2.2.2 i v (lget_some hi)).1
theorem lvO_mem {ls : List (Option Value)} {i : Nat} {v : Value} (h : ls[i]? = some (some v)) : (i, v) ∈ lvO ls := by
  refine List.mem_filterMap.mpr ⟨i, List.mem_range.mpr (List.getElem?_eq_some_iff.mp h).1, ?_⟩
  rw [lget_of h]; rfl
/-- behind a store -/
theorem LR.put {arr arr' : Array Slot} {nL j : Nat} {ls : List (Option Value)} {v : Value} (h : LR arr nL ls) (hv : v1 v) (hj : j < nL) (hh : lv_has arr' nL ((j, v) :: (lvO ls).filter (fun q => !(q.1 == j) && !(q.1 + 1 == j && q.2.category == 2)))) : LR arr' nL (ls.set j (some v)) := by
  refine ⟨by rw [List.length_set]; exact h.1, hh.1, hh.2.1, fun i w hi => ?_⟩
  by_cases hij : j = i
  · subst hij
    rw [List.getElem?_set_self (by rw [h.1]; exact hj)] at hi
    cases hi
    exact ⟨hh.2.2 (j, v) List.mem_cons_self, hv⟩
  · rw [List.getElem?_set_ne hij] at hi
    have hc := (h.2.2.2 i w hi).2
    refine ⟨hh.2.2 (i, w) (List.mem_cons_of_mem _ (List.mem_filter.mpr ⟨lvO_mem hi, ?_⟩)), hc⟩
    have h1 : (i == j) = false := by rw [beq_eq_false_iff_ne]; exact fun z => hij z.symm
    have h2 : (w.category == 2) = false := by
      unfold v1 at hc
      rw [hc]; rfl
    show (!(i == j) && !(i + 1 == j && w.category == 2)) = true
    rw [h1, h2, Bool.and_false]; rfl
theorem LR.put_iinc {arr arr' : Array Slot} {nL j k : Nat} {ls : List (Option Value)} {v w : Value} (h : LR arr nL ls) (hv : v1 v) (hj : j < nL) (hh : lv_has arr' nL ((j, v) :: (lvO ls).filter (fun q => !(q.1 == j) && !(q.1 + 1 == j && q.2.category == 2)))) : LR arr' nL (ls.set j (some v)) := h.put hv hj hh
theorem lvO_at {ls : List (Option Value)} {j : Nat} {v : Value} (h : lget ls j = some v) : ∃ k : Nat, (lvO ls)[k]? = some (j, v) := List.getElem?_of_mem (lvO_mem (lget_some h))
end
section
/-- a body of method M stands -/
def Cx (p : Program) (l : Launch) (R : Room) (s : State) (m : MethodId) (meth : Method) (c : Code) (D : va_G) (c4 : C4) (A : Nat → Prop) (E : XE) (d : Nat) (M : ME) (nL mc ms : Nat) : Prop :=
  p.tables.exec = Jvm.exec ∧ c.code = M.2.1 ∧ meth.sig.returnType = M.2.2.1 ∧ c.maxLocals = nL ∧ meth.locks = false ∧ s.vm.findClass M.1.cls = some m.cls ∧ meth.name = M.1.name ∧ c.exceptionTable.toList = tableOf M.2.2.2 ∧ KS D c4 A E s s.heap ∧ R.cells = mc ∧ R.slots = ms ∧ d + 1 ≤ R.frames ∧ 30 * (d + 1) ≤ R.locals ∧ l.stackTraces = false
/-- what the machine does from a state of the pure machine -/
def SM (p : Program) (l : Launch) (e : Env) (R : Room) (s : State) (m : MethodId) (args : Array Value) (below : List Frame) (meth : Method) (c : Code) (Q : State → Prop) (D : va_G) (c4 : C4) (A : Nat → Prop) (nL mc ms : Nat) : XS := fun pc ls st G k n =>
  k ≤ mc → n ≤ ms → ∀ (H : Heap) (locs : List Loc) (arr : Array Slot), Rep D c4 A G H → LR arr nL ls → va_S A s.heap H locs → W p l e R s m args below meth c H locs k n Q (F0 m pc arr st)
section RULES
variable {p : Program} {l : Launch} {e : Env} {R : Room} {s : State} {m : MethodId} {args : Array Value} {below : List Frame} {meth : Method} {c : Code} {Q : State → Prop} {D : va_G} {c4 : C4} {A : Nat → Prop} {E : XE} {d : Nat} {M : ME} {nL mc ms : Nat}
theorem s_pure (C : Cx p l R s m meth c D c4 A E d M nL mc ms) : r_pure M (SM p l e R s m args below meth c Q D c4 A nL mc ms) := by
  obtain ⟨hx, hb, -⟩ := C
  intro pc ls st G k n i len st' hd hp h hk hn H locs arr hR hL hS
  have K := h hk hn H locs arr hR hL hS
  unfold pst at hp
  split at hp <;> first
    | (cases hp; exact lv_iconst hx hb hd rfl K)
    | (cases hp; exact lv_lconst hx hb hd rfl K)
    | (cases hp; exact lv_bipush hx hb hd rfl K)
    | (cases hp; exact lv_sipush hx hb hd rfl K)
    | (cases hp; exact lv_null hx hb hd K)
    | (cases hp; exact lv_iadd hx hb hd K)
    | (cases hp; exact lv_isub hx hb hd K)
    | (cases hp; exact lv_imul hx hb hd K)
    | (cases hp; exact lv_ishr hx hb hd K)
    | (cases hp; exact lv_iand hx hb hd K)
    | (cases hp; exact lv_i2l hx hb hd rfl K)
    | (cases hp; exact W.lcmp hx hb hd K)
    | cases hp
theorem s_load (C : Cx p l R s m meth c D c4 A E d M nL mc ms) : r_load M (SM p l e R s m args below meth c Q D c4 A nL mc ms) := by
  obtain ⟨hx, hb, -⟩ := C
  intro pc ls st G k n i len j v hd hg hp h hk hn H locs arr hR hL hS
  have K := h hk hn H locs arr hR hL hS
  have g := hL.get hg
  unfold lst at hp
  split at hp <;> first
    | (cases hp; exact lv_iload_n hx hb hd rfl g K)
    | (cases hp; exact lv_iload hx hb hd g K)
    | (cases hp; exact lv_aload_n hx hb hd rfl g K)
    | (cases hp; exact lv_aload hx hb hd g K)
    | (cases hp; exact lv_aload_nN hx hb hd rfl g K)
    | (cases hp; exact lv_aloadN hx hb hd g K)
    | cases hp
theorem s_store (C : Cx p l R s m meth c D c4 A E d M nL mc ms) : r_store M (SM p l e R s m args below meth c Q D c4 A nL mc ms) := by
  obtain ⟨hx, hb, -⟩ := C
  intro pc ls st G k n i len j v hd hp hj h hk hn H locs arr hR hL hS
  have K := h hk hn H locs
  have hj' : j < nL := by rw [← hL.1]; exact hj
  unfold sst at hp
  split at hp <;> first
    | (cases hp; exact lv_istore_n hx hb hd rfl hL.has hj' rfl fun a' ha => K a' hR (hL.put rfl hj' ha) hS)
    | (cases hp; exact lv_istore hx hb hd hL.has hj' rfl fun a' ha => K a' hR (hL.put rfl hj' ha) hS)
    | (cases hp; exact lv_astore_n hx hb hd rfl hL.has hj' rfl fun a' ha => K a' hR (hL.put rfl hj' ha) hS)
    | (cases hp; exact lv_astore hx hb hd hL.has hj' rfl fun a' ha => K a' hR (hL.put rfl hj' ha) hS)
    | (cases hp; exact lv_astore_nN hx hb hd rfl hL.has hj' rfl fun a' ha => K a' hR (hL.put rfl hj' ha) hS)
    | (cases hp; exact lv_astoreN hx hb hd hL.has hj' rfl fun a' ha => K a' hR (hL.put rfl hj' ha) hS)
    | cases hp
theorem s_iinc (C : Cx p l R s m meth c D c4 A E d M nL mc ms) : r_iinc M (SM p l e R s m args below meth c Q D c4 A nL mc ms) := by
  obtain ⟨hx, hb, -⟩ := C
  intro pc ls st G k n j cc x hd hg h hk hn H locs arr hR hL hS
  have K := h hk hn H locs
  have hj' : j < nL := by rw [← hL.1]; exact (List.getElem?_eq_some_iff.mp (lget_some hg)).1
  obtain ⟨q, hq⟩ := lvO_at hg
  exact lv_iinc hx hb hd hL.has hq rfl hj' rfl fun a' ha => K a' hR (hL.put rfl hj' ha) hS
theorem s_dup (C : Cx p l R s m meth c D c4 A E d M nL mc ms) : r_dup M (SM p l e R s m args below meth c Q D c4 A nL mc ms) := by
  obtain ⟨hx, hb, -⟩ := C
  intro pc ls st G k n v hd hv h hk hn H locs arr hR hL hS
  exact lv_dup hx hb hd hv (h hk hn H locs arr hR hL hS)
theorem s_dupx (C : Cx p l R s m meth c D c4 A E d M nL mc ms) : r_dupx M (SM p l e R s m args below meth c Q D c4 A nL mc ms) := by
  obtain ⟨hx, hb, -⟩ := C
  intro pc ls st G k n v w hd hv hw h hk hn H locs arr hR hL hS
  exact lv_dup_x1 hx hb hd hv hw (h hk hn H locs arr hR hL hS)
theorem s_dup2 (C : Cx p l R s m meth c D c4 A E d M nL mc ms) : r_dup2 M (SM p l e R s m args below meth c Q D c4 A nL mc ms) := by
  obtain ⟨hx, hb, -⟩ := C
  intro pc ls st G k n v w hd hv hw h hk hn H locs arr hR hL hS
  exact lv_dup2_11 hx hb hd hv hw (h hk hn H locs arr hR hL hS)
theorem s_pop (C : Cx p l R s m meth c D c4 A E d M nL mc ms) : r_pop M (SM p l e R s m args below meth c Q D c4 A nL mc ms) := by
  obtain ⟨hx, hb, -⟩ := C
  intro pc ls st G k n v hd hv h hk hn H locs arr hR hL hS
  exact lv_pop hx hb hd hv (h hk hn H locs arr hR hL hS)
theorem s_div (C : Cx p l R s m meth c D c4 A E d M nL mc ms) : r_div M (SM p l e R s m args below meth c Q D c4 A nL mc ms) := by
  obtain ⟨hx, hb, -⟩ := C
  intro pc ls st G k n x y hd hv h hk hn H locs arr hR hL hS
  exact lv_idiv hx hb hd hv (h hk hn H locs arr hR hL hS)
theorem s_rem (C : Cx p l R s m meth c D c4 A E d M nL mc ms) : r_rem M (SM p l e R s m args below meth c Q D c4 A nL mc ms) := by
  obtain ⟨hx, hb, -⟩ := C
  intro pc ls st G k n x y hd hv h hk hn H locs arr hR hL hS
  exact lv_irem hx hb hd hv (h hk hn H locs arr hR hL hS)
theorem s_if (C : Cx p l R s m meth c D c4 A E d M nL mc ms) : r_if M (SM p l e R s m args below meth c Q D c4 A nL mc ms) := by
  obtain ⟨hx, hb, -⟩ := C
  intro pc ls st G k n o off tgt x hd ht h1 h2 hk hn H locs arr hR hL hS
  cases o
  · exact lv_if_eq hx hb hd ht (fun z => h1 z hk hn H locs arr hR hL hS) (fun z => h2 z hk hn H locs arr hR hL hS)
  · exact lv_if_ne hx hb hd ht (fun z => h1 z hk hn H locs arr hR hL hS) (fun z => h2 (fun w => w z) hk hn H locs arr hR hL hS)
  · exact lv_if_lt hx hb hd ht (fun z => h1 z hk hn H locs arr hR hL hS) (fun z => h2 z hk hn H locs arr hR hL hS)
  · exact lv_if_ge hx hb hd ht (fun z => h1 z hk hn H locs arr hR hL hS) (fun z => h2 z hk hn H locs arr hR hL hS)
  · exact lv_if_gt hx hb hd ht (fun z => h1 z hk hn H locs arr hR hL hS) (fun z => h2 z hk hn H locs arr hR hL hS)
  · exact lv_if_le hx hb hd ht (fun z => h1 z hk hn H locs arr hR hL hS) (fun z => h2 z hk hn H locs arr hR hL hS)
theorem s_icmp (C : Cx p l R s m meth c D c4 A E d M nL mc ms) : r_icmp M (SM p l e R s m args below meth c Q D c4 A nL mc ms) := by
  obtain ⟨hx, hb, -⟩ := C
  intro pc ls st G k n o off tgt x y hd ht h1 h2 hk hn H locs arr hR hL hS
  cases o
  · exact lv_icmp_eq hx hb hd ht (fun z => h1 z hk hn H locs arr hR hL hS) (fun z => h2 z hk hn H locs arr hR hL hS)
  · exact lv_icmp_ne hx hb hd ht (fun z => h1 z hk hn H locs arr hR hL hS) (fun z => h2 (fun w => w z) hk hn H locs arr hR hL hS)
  · exact lv_icmp_lt hx hb hd ht (fun z => h1 z hk hn H locs arr hR hL hS) (fun z => h2 z hk hn H locs arr hR hL hS)
  · exact lv_icmp_ge hx hb hd ht (fun z => h1 z hk hn H locs arr hR hL hS) (fun z => h2 z hk hn H locs arr hR hL hS)
  · exact lv_icmp_gt hx hb hd ht (fun z => h1 z hk hn H locs arr hR hL hS) (fun z => h2 z hk hn H locs arr hR hL hS)
  · exact lv_icmp_le hx hb hd ht (fun z => h1 z hk hn H locs arr hR hL hS) (fun z => h2 z hk hn H locs arr hR hL hS)
theorem s_goto (C : Cx p l R s m meth c D c4 A E d M nL mc ms) : r_goto M (SM p l e R s m args below meth c Q D c4 A nL mc ms) := by
  obtain ⟨hx, hb, -⟩ := C
  intro pc ls st G k n off tgt hd ht h hk hn H locs arr hR hL hS
  exact lv_goto hx hb hd ht (h hk hn H locs arr hR hL hS)
theorem s_nul (C : Cx p l R s m meth c D c4 A E d M nL mc ms) : r_nul M (SM p l e R s m args below meth c Q D c4 A nL mc ms) := by
  obtain ⟨hx, hb, -⟩ := C
  intro pc ls st G k n off tgt hd ht h hk hn H locs arr hR hL hS
  exact lv_ifnullN hx hb hd ht (h hk hn H locs arr hR hL hS)
theorem s_nulR (C : Cx p l R s m meth c D c4 A E d M nL mc ms) : r_nulR M (SM p l e R s m args below meth c Q D c4 A nL mc ms) := by
  obtain ⟨hx, hb, -⟩ := C
  intro pc ls st G k n off a hd h hk hn H locs arr hR hL hS
  exact lv_ifnull hx hb hd (h hk hn H locs arr hR hL hS)
theorem s_non (C : Cx p l R s m meth c D c4 A E d M nL mc ms) : r_non M (SM p l e R s m args below meth c Q D c4 A nL mc ms) := by
  obtain ⟨hx, hb, -⟩ := C
  intro pc ls st G k n off hd h hk hn H locs arr hR hL hS
  exact lv_ifnonnullN hx hb hd (h hk hn H locs arr hR hL hS)
theorem s_nonR (C : Cx p l R s m meth c D c4 A E d M nL mc ms) : r_nonR M (SM p l e R s m args below meth c Q D c4 A nL mc ms) := by
  obtain ⟨hx, hb, -⟩ := C
  intro pc ls st G k n off tgt a hd ht h hk hn H locs arr hR hL hS
  exact lv_ifnonnull hx hb hd ht (h hk hn H locs arr hR hL hS)
theorem s_aeq (C : Cx p l R s m meth c D c4 A E d M nL mc ms) : r_aeq M (SM p l e R s m args below meth c Q D c4 A nL mc ms) := by
  obtain ⟨hx, hb, -⟩ := C
  intro pc ls st G k n off tgt a b hd ht h1 h2 hk hn H locs arr hR hL hS
  exact lv_acmp_eq (rx := some a) (ry := some b) hx hb hd ht (fun z => h1 (Option.some.inj z) hk hn H locs arr hR hL hS) (fun z => h2 (fun w => z (by rw [w])) hk hn H locs arr hR hL hS)
theorem s_ane (C : Cx p l R s m meth c D c4 A E d M nL mc ms) : r_ane M (SM p l e R s m args below meth c Q D c4 A nL mc ms) := by
  obtain ⟨hx, hb, -⟩ := C
  intro pc ls st G k n off tgt a b hd ht h1 h2 hk hn H locs arr hR hL hS
  exact lv_acmp_ne (rx := some a) (ry := some b) hx hb hd ht (fun z => h1 (fun w => z (by rw [w])) hk hn H locs arr hR hL hS) (fun z => h2 (Option.some.inj z) hk hn H locs arr hR hL hS)
theorem s_swIn (C : Cx p l R s m meth c D c4 A E d M nL mc ms) : r_swIn M (SM p l e R s m args below meth c Q D c4 A nL mc ms) := by
  obtain ⟨hx, hb, -⟩ := C
  intro pc ls st G k n dflt lo hi offs len x off tgt hd h1 h2 ho ht h hk hn H locs arr hR hL hS
  exact lv_tableIn hx hb hd h1 h2 ho ht (h hk hn H locs arr hR hL hS)
theorem s_swOut (C : Cx p l R s m meth c D c4 A E d M nL mc ms) : r_swOut M (SM p l e R s m args below meth c Q D c4 A nL mc ms) := by
  obtain ⟨hx, hb, -⟩ := C
  intro pc ls st G k n dflt lo hi offs len x tgt hd h1 ht h hk hn H locs arr hR hL hS
  exact lv_tableOut hx hb hd h1 ht (h hk hn H locs arr hR hL hS)
theorem s_ldc (C : Cx p l R s m meth c D c4 A E d M nL mc ms) : r_ldc M (SM p l e R s m args below meth c Q D c4 A nL mc ms) := by
  obtain ⟨hx, hb, -, -, -, ho, -, -, hK, -⟩ := C
  intro pc ls st G k n i v hd hw h hk hn H locs arr hR hL hS
  exact lv_ldc hx hb ho (kW_use hw.2 (hK.1 _ hw)) hd (h hk hn H locs arr hR hL hS)
theorem s_ldcw (C : Cx p l R s m meth c D c4 A E d M nL mc ms) : r_ldcw M (SM p l e R s m args below meth c Q D c4 A nL mc ms) := by
  obtain ⟨hx, hb, -, -, -, ho, -, -, hK, -⟩ := C
  intro pc ls st G k n i v hd hw h hk hn H locs arr hR hL hS
  exact lv_ldcw hx hb ho (kW_use hw.2 (hK.1 _ hw)) hd (h hk hn H locs arr hR hL hS)
theorem s_xr1 (C : Cx p l R s m meth c D c4 A E d M nL mc ms) : XR1 M (SM p l e R s m args below meth c Q D c4 A nL mc ms) :=
  ⟨s_pure C, s_load C, s_store C, s_iinc C, s_dup C, s_dupx C, s_dup2 C, s_pop C, s_div C, s_rem C, s_if C, s_icmp C, s_goto C, s_nul C, s_nulR C, s_non C, s_nonR C, s_aeq C, s_ane C, s_swIn C, s_swOut C, s_ldc C, s_ldcw C⟩
end RULES
end
section
section HEAP
variable {p : Program} {l : Launch} {e : Env} {R : Room} {s : State} {m : MethodId} {args : Array Value} {below : List Frame} {meth : Method} {c : Code} {Q : State → Prop} {D : va_G} {c4 : C4} {A : Nat → Prop} {E : XE} {d : Nat} {M : ME} {nL mc ms : Nat}
theorem KS.w {D : va_G} {c4 : C4} {A : Nat → Prop} {E : XE} {s : State} {H : Heap} (h : KS D c4 A E s H) {w : Jvm.Cond} (hw : tW w) {args : Array Value} : w.before args s = true := kW_use hw.2 (h.1 _ hw)
theorem Rep.at {G : HP} {H : Heap} (h : Rep D c4 A G H) {a : Nat} {e : HE} (ha : G a = some e) : ∃ (ws : va_W) (k : Nat), va_P D vwCl ws H ∧ va_D A ws ∧ (∀ a e, G a = some e → ∃ k : Nat, ws[k]? = some (a, eW c4 e)) ∧ (∀ (k : Nat) (q : Nat × va_E), ws[k]? = some q → G q.1 ≠ none) ∧ ws[k]? = some (a, eW c4 e) := by
  obtain ⟨ws, h1, h2, h3, h4⟩ := h
  obtain ⟨k, hk⟩ := h3 a e ha
  exact ⟨ws, k, h1, h2, h3, h4, hk⟩
theorem s_get (C : Cx p l R s m meth c D c4 A E d M nL mc ms) : r_get M (SM p l e R s m args below meth c Q D c4 A nL mc ms) := by
  obtain ⟨hx, hb, -, -, -, ho, -, -, hK, -⟩ := C
  intro pc ls st G k n i ci kf t fin de a fs v hd hF ha hv h hk hn H locs arr hRp hL hS
  obtain ⟨q, ty, ref, ⟨c1, c2, c3, c5, -, -⟩, f1, f2, f3, -⟩ := hF
  obtain ⟨ws, q0, r1, r2, r3, r4, r5⟩ := hRp.at ha
  exact va_get (Ts := u_ws q.1 q.2.1 q.2.2) hx hb (fun w hw => hK.w (c2 w hw)) (fun _ h => h) ho hK.2.1 r1 q0 r5 c1 kf f1 (hK.w f2) (fun x hxx => by
    rcases f3 with f3 | f3
    · rw [f3]; exact hxx
    · exact u_same (hK.w (args := args) f3) x hxx) hv hd (h hk hn H locs arr hRp hL hS)
theorem s_put (C : Cx p l R s m meth c D c4 A E d M nL mc ms) : r_put M (SM p l e R s m args below meth c Q D c4 A nL mc ms) := by
  obtain ⟨hx, hb, -, -, -, ho, hnm, -, hK, -⟩ := C
  intro pc ls st G k n i ci kf t fin de a fs v hd hF hfi ha hl hn1 hn2 h hk hn H locs arr hRp hL hS
  obtain ⟨q, ty, ref, ⟨c1, c2, c3, c5, -, -⟩, f1, f2, f3, f4, f5, f6⟩ := hF
  obtain ⟨ws, q0, r1, r2, r3, r4, r5⟩ := hRp.at ha
  have hsame : ∀ x, s.fieldFound? (q.2.1 kf).1 (q.2.1 kf).2.1 (q.2.1 kf).2.2.1 = some x → s.fieldFound? ref (q.2.1 kf).2.1 (q.2.1 kf).2.2.1 = some x := fun x hxx => by
    rcases f3 with f3 | f3
    · rw [f3]; exact hxx
    · exact u_same (hK.w (args := args) f3) x hxx
  have hd9 : parseFieldDescriptor (q.2.1 kf).2.2.1 = some t := by rw [← f4]; exact c3 kf f1
  have kk : ∀ (H1 : Heap) (locs1 : List Loc), va_P D vwCl (ws.set q0 (a, .inr (ci, fs.set kf v))) H1 → va_D A (ws.set q0 (a, .inr (ci, fs.set kf v))) → va_S A s.heap H1 locs1 → W p l e R s m args below meth c H1 locs1 k n Q (F0 m (pc + 3) arr st) := fun H1 locs1 g1 g2 g3 => by
    obtain ⟨w1, w2⟩ := rep_set (e := hO ci (fs.set kf v)) r2 r3 r4 r5
    exact h hk hn H1 locs1 arr ⟨_, g1, g2, w1, w2⟩ hL g3
  rcases hfi with hfi | ⟨hfi, h7, h8⟩
  · exact va_put (Ts := u_ws q.1 q.2.1 q.2.2) hx hb (fun w hw => hK.w (c2 w hw)) (fun _ h => h) ty c3 c5 ho hK.2.1 r1 r2 hS q0 r5 c1 kf f1 (hK.w f2) hsame (by rw [f5]; exact hfi) hd9 hn1 hn2 hl hd kk
  · exact va_putF (Ts := u_ws q.1 q.2.1 q.2.2) hx hb (fun w hw => hK.w (c2 w hw)) (fun _ h => h) ty c3 c5 ho hK.2.1 r1 r2 hS q0 r5 c1 kf f1 (hK.w f2) hsame (by rw [f5]; exact hfi) (hnm.trans h7) (f6.trans h8) hd9 hn1 hn2 hl hd kk
theorem s_new (C : Cx p l R s m meth c D c4 A E d M nL mc ms) : r_new M mc ms (SM p l e R s m args below meth c Q D c4 A nL mc ms) := by
  obtain ⟨hx, hb, -, -, -, ho, hnm, -, hK, hRc, hRs, -⟩ := C
  intro pc ls st G k n i ci fs hd hF hk1 hn1 h hk hn H locs arr hRp hL hS
  obtain ⟨q, ty, ⟨c1, c2, c3, c5, c6, c7⟩, f1, f2, f3⟩ := hF
  obtain ⟨ws, r1, r2, r3, r4⟩ := hRp
  refine va_new (Ts := u_ws q.1 q.2.1 q.2.2) hx hb (fun w hw => hK.w (c2 w hw)) (fun _ h => h) ty c3 ho (hK.w f1) (hK.w c6) (hK.w c7) hK.2.1 r1 r2 hS (fun q h => hK.2.2.2.2.2.2.2.2.2.2.2.2.2 q h) c1 f2 (by rw [hRc]; exact hk1) (by rw [hRs, ← f3]; exact hn1) hd (fun a H1 g1 g2 g3 => ?_)
  rw [← f3]
  obtain ⟨w1, w2⟩ := rep_push (a := a) (e := hO ci fs) r3 r4
  exact h a (rep_none (D := D) g2 r3) hk1 hn1 H1 locs arr ⟨_, g1, g2, w1, w2⟩ hL g3
theorem arZ_spec {i : ArrayType} {N : Nat} {ee : HE} (h : arZ i N = some ee) : ∃ a0 : vp_A, (∀ cA : ClassId, vp_cell cA a0 = arrV cA N (fun _ => defaultValue (newarray.typeOf i))) ∧ (∃ (t0 : Nat) (cA : ClassId), (ty4 c4)[t0]? = some (cA, newarray.typeOf i) ∧ eW c4 ee = .inl (cA, a0)) ∧ componentBytes (newarray.typeOf i) ≤ 8 := by
  cases i <;> simp only [arZ] at h <;> first | cases h | skip
  · exact ⟨(N, .inl (fun _ => 0)), fun _ => rfl, ⟨1, _, rfl, rfl⟩, by decide⟩
  · exact ⟨(N, .inl (fun _ => 0)), fun _ => rfl, ⟨0, _, rfl, rfl⟩, by decide⟩
  · exact ⟨(N, .inr (.inl (fun _ => 0))), fun _ => rfl, ⟨2, _, rfl, rfl⟩, by decide⟩
theorem s_newA (C : Cx p l R s m meth c D c4 A E d M nL mc ms) : r_newA M mc ms (SM p l e R s m args below meth c Q D c4 A nL mc ms) := by
  obtain ⟨hx, hb, -, -, -, ho, hnm, -, hK, hRc, hRs, -⟩ := C
  intro pc ls st G k n i x N ee hd hw ha h0 hN hbig hk1 hn1 h hk hn H locs arr hRp hL hS
  obtain ⟨ws, r1, r2, r3, r4⟩ := hRp
  obtain ⟨a0, g1, ⟨t0, cA, g2, g3⟩, g4⟩ := arZ_spec (c4 := c4) ha
  have hbytes : N * componentBytes (newarray.typeOf i) ≤ 536870912 := Nat.le_trans (Nat.mul_le_mul hbig g4) (by decide)
  refine va_newa hx hb (hK.w hw) rfl hK.2.1 r1 r2 hS (fun q h => hK.2.2.2.2.2.2.2.2.2.2.2.2.2 q h) g1 h0 hN hbytes (by rw [hRc]; exact hk1) (by rw [hRs]; exact hn1) hd (fun a cB H1 k1 k2 k3 k4 => ?_)
  have hc : cB = cA := by
    have e1 := (k1.2 (ty4 c4).length (cB, newarray.typeOf i) (by rw [List.getElem?_append_right (Nat.le_refl _), Nat.sub_self]; rfl)).2
    have e2 := (hK.2.1.2 t0 _ g2).2
    cases i <;> simp only [arZ] at ha <;> first | cases ha | skip
    all_goals exact Option.some.inj (Eq.trans (Eq.symm e1) e2)
  subst hc
  obtain ⟨w1, w2⟩ := rep_push (a := a) (e := ee) r3 r4
  rw [g3] at w1 w2
  exact h a (rep_none (D := D) k3 r3) hk1 hn1 H1 locs arr ⟨_, k2, k3, w1, w2⟩ hL k4
theorem s_newO (C : Cx p l R s m meth c D c4 A E d M nL mc ms) : r_newO M mc ms (SM p l e R s m args below meth c Q D c4 A nL mc ms) := by
  obtain ⟨hx, hb, -, -, -, ho, hnm, -, hK, hRc, hRs, -⟩ := C
  intro pc ls st G k n i x N hd hw h0 hN hbig hk1 hn1 h hk hn H locs arr hRp hL hS
  obtain ⟨ws, r1, r2, r3, r4⟩ := hRp
  refine va_newq hx hb ho (hK.w hw) hK.2.2.2.2.2.2.2.2.1 hK.2.1 r1 r2 hS (fun q h => hK.2.2.2.2.2.2.2.2.2.2.2.2.2 q h) h0 hN (by omega) (by rw [hRc]; exact hk1) (by rw [hRs]; exact hn1) hd (fun a cB H1 k1 k2 k3 k4 => ?_)
  have hc : cB = c4.2.2.2 := by
    obtain ⟨kA, co, -, -, -, e1⟩ := (k1.2 (ty4 c4).length (cB, .object "java/lang/Object") (by rw [List.getElem?_append_right (Nat.le_refl _), Nat.sub_self]; rfl)).2
    obtain ⟨kA2, co2, -, -, -, e2⟩ := (hK.2.1.2 3 (c4.2.2.2, .object "java/lang/Object") rfl).2
    exact Option.some.inj (e1.symm.trans e2)
  subst hc
  obtain ⟨w1, w2⟩ := rep_push (a := a) (e := hR N (fun _ => none)) r3 r4
  exact h a (rep_none (D := D) k3 r3) hk1 hn1 H1 locs arr ⟨_, k2, k3, w1, w2⟩ hL k4
theorem s_iald (C : Cx p l R s m meth c D c4 A E d M nL mc ms) : r_iald M (SM p l e R s m args below meth c Q D c4 A nL mc ms) := by
  obtain ⟨hx, hb, -, -, -, ho, -, -, hK, -⟩ := C
  intro pc ls st G k n a N f i hd ha hi h hk hn H locs arr hRp hL hS
  obtain ⟨ws, q0, r1, r2, r3, r4, r5⟩ := hRp.at ha
  exact va_iald hx hb hK.2.1 r1 q0 0 r5 rfl hi hd (h hk hn H locs arr hRp hL hS)
theorem s_zald (C : Cx p l R s m meth c D c4 A E d M nL mc ms) : r_zald M (SM p l e R s m args below meth c Q D c4 A nL mc ms) := by
  obtain ⟨hx, hb, -, -, -, ho, -, -, hK, -⟩ := C
  intro pc ls st G k n a N f i hd ha hi h hk hn H locs arr hRp hL hS
  obtain ⟨ws, q0, r1, r2, r3, r4, r5⟩ := hRp.at ha
  exact va_zald hx hb hK.2.1 r1 q0 1 r5 rfl hi hd (h hk hn H locs arr hRp hL hS)
theorem s_lald (C : Cx p l R s m meth c D c4 A E d M nL mc ms) : r_lald M (SM p l e R s m args below meth c Q D c4 A nL mc ms) := by
  obtain ⟨hx, hb, -, -, -, ho, -, -, hK, -⟩ := C
  intro pc ls st G k n a N f i hd ha hi h hk hn H locs arr hRp hL hS
  obtain ⟨ws, q0, r1, r2, r3, r4, r5⟩ := hRp.at ha
  exact va_lald hx hb hK.2.1 r1 q0 2 r5 rfl hi hd (h hk hn H locs arr hRp hL hS)
theorem s_aald (C : Cx p l R s m meth c D c4 A E d M nL mc ms) : r_aald M (SM p l e R s m args below meth c Q D c4 A nL mc ms) := by
  obtain ⟨hx, hb, -, -, -, ho, -, -, hK, -⟩ := C
  intro pc ls st G k n a N f i hd ha hi h hk hn H locs arr hRp hL hS
  obtain ⟨ws, q0, r1, r2, r3, r4, r5⟩ := hRp.at ha
  exact va_aldq hx hb hK.2.1 r1 q0 3 r5 rfl hi hd (h hk hn H locs arr hRp hL hS)
theorem s_iast (C : Cx p l R s m meth c D c4 A E d M nL mc ms) : r_iast M (SM p l e R s m args below meth c Q D c4 A nL mc ms) := by
  obtain ⟨hx, hb, -, -, -, ho, -, -, hK, -⟩ := C
  intro pc ls st G k n a N f i x hd ha hi h hk hn H locs arr hRp hL hS
  obtain ⟨ws, q0, r1, r2, r3, r4, r5⟩ := hRp.at ha
  refine va_iast hx hb hK.2.1 r1 r2 hS q0 0 r5 rfl hi hd (fun H1 locs1 g1 g2 g3 => ?_)
  obtain ⟨w1, w2⟩ := rep_set (e := hI N (va_up f i.toNatClampNeg x)) r2 r3 r4 r5
  exact h hk hn H1 locs1 arr ⟨_, g1, g2, w1, w2⟩ hL g3
theorem s_zast (C : Cx p l R s m meth c D c4 A E d M nL mc ms) : r_zast M (SM p l e R s m args below meth c Q D c4 A nL mc ms) := by
  obtain ⟨hx, hb, -, -, -, ho, -, -, hK, -⟩ := C
  intro pc ls st G k n a N f i x hd ha hi hz h hk hn H locs arr hRp hL hS
  obtain ⟨ws, q0, r1, r2, r3, r4, r5⟩ := hRp.at ha
  refine va_zast hx hb hK.2.1 r1 r2 hS q0 1 r5 rfl hi hd (fun H1 locs1 g1 g2 g3 => ?_)
  rw [hz] at g1 g2
  obtain ⟨w1, w2⟩ := rep_set (e := hZ N (va_up f i.toNatClampNeg x)) r2 r3 r4 r5
  exact h hk hn H1 locs1 arr ⟨_, g1, g2, w1, w2⟩ hL g3
theorem s_last (C : Cx p l R s m meth c D c4 A E d M nL mc ms) : r_last M (SM p l e R s m args below meth c Q D c4 A nL mc ms) := by
  obtain ⟨hx, hb, -, -, -, ho, -, -, hK, -⟩ := C
  intro pc ls st G k n a N f i x hd ha hi h hk hn H locs arr hRp hL hS
  obtain ⟨ws, q0, r1, r2, r3, r4, r5⟩ := hRp.at ha
  refine va_last hx hb hK.2.1 r1 r2 hS q0 2 r5 rfl hi hd (fun H1 locs1 g1 g2 g3 => ?_)
  obtain ⟨w1, w2⟩ := rep_set (e := hJ N (va_up f i.toNatClampNeg x)) r2 r3 r4 r5
  exact h hk hn H1 locs1 arr ⟨_, g1, g2, w1, w2⟩ hL g3
theorem s_aast (C : Cx p l R s m meth c D c4 A E d M nL mc ms) : r_aast M (SM p l e R s m args below meth c Q D c4 A nL mc ms) := by
  obtain ⟨hx, hb, -, -, -, ho, -, -, hK, -⟩ := C
  intro pc ls st G k n a N f i b ci fs q hd ha hi hbb hc hca h hk hn H locs arr hRp hL hS
  obtain ⟨ws, q0, r1, r2, r3, r4, r5⟩ := hRp.at ha
  obtain ⟨qk, r6⟩ := r3 b _ hbb
  refine va_astqO hx hb hK.2.1 r1 r2 hS q0 3 qk ci r5 rfl (hK.1 _ hca) r6 hc hi hd (fun H1 locs1 g1 g2 g3 => ?_)
  obtain ⟨w1, w2⟩ := rep_set (e := hR N (va_up f i.toNatClampNeg (some b))) r2 r3 r4 r5
  exact h hk hn H1 locs1 arr ⟨_, g1, g2, w1, w2⟩ hL g3
end HEAP
end
section
/-! fixed words -/
theorem tw_gc1 : tW (.declares ⟨"java/lang/Object", "getClass", "()Ljava/lang/Class;"⟩) := ⟨List.mem_of_getElem? (i := 1285) (by decide +kernel), by decide +kernel⟩
theorem tw_gc2 : tW (.selects "[Ljava/lang/Object;" ⟨"java/lang/Object", "getClass", "()Ljava/lang/Class;"⟩ ⟨"java/lang/Object", "getClass", "()Ljava/lang/Class;"⟩) := ⟨List.mem_of_getElem? (i := 1284) (by decide +kernel), by decide +kernel⟩
theorem tw_gc3 : tW (.instanceMethod ⟨"java/lang/Object", "getClass", "()Ljava/lang/Class;"⟩) := ⟨List.mem_of_getElem? (i := 194) (by decide +kernel), by decide +kernel⟩
theorem tw_gc4 : tW (.native ⟨"java/lang/Object", "getClass", "()Ljava/lang/Class;"⟩) := ⟨List.mem_of_getElem? (i := 210) (by decide +kernel), by decide +kernel⟩
theorem tw_ac1 : tW (.native arraycopyName) := ⟨List.mem_of_getElem? (i := 222) (by decide +kernel), by decide +kernel⟩
theorem tw_ac2 : tW (.static arraycopyName) := ⟨List.mem_of_getElem? (i := 221) (by decide +kernel), by decide +kernel⟩
theorem tw_ac3 : tW (.initialized "java/lang/System") := ⟨List.mem_of_getElem? (i := 56) (by decide +kernel), by decide +kernel⟩
theorem tw_mx1 : tW (.static Lib.Math.max.name) := ⟨List.mem_of_getElem? (i := 184) (by decide +kernel), by decide +kernel⟩
theorem tw_mx2 : tW (.initialized "java/lang/Math") := ⟨List.mem_of_getElem? (i := 54) (by decide +kernel), by decide +kernel⟩
theorem tw_mx3 : tW (.code Lib.Math.max.name Lib.Math.max.code 2 (some .int)) := ⟨List.mem_of_getElem? (i := 185) (by decide +kernel), by decide +kernel⟩
theorem tw_mn1 : tW (.static Lib.Math.min.name) := ⟨List.mem_of_getElem? (i := 218) (by decide +kernel), by decide +kernel⟩
theorem tw_mn3 : tW (.code Lib.Math.min.name Lib.Math.min.code 2 (some .int)) := ⟨List.mem_of_getElem? (i := 219) (by decide +kernel), by decide +kernel⟩
theorem tw_oi1 : tW (.instanceMethod Lib.objectInit) := ⟨List.mem_of_getElem? (i := 78) (by decide +kernel), by decide +kernel⟩
theorem tw_oi2 : tW (.code Lib.objectInit ⟨#[0xb1]⟩ 1 none) := ⟨List.mem_of_getElem? (i := 79) (by decide +kernel), by decide +kernel⟩
section HEAP2
variable {p : Program} {l : Launch} {e : Env} {R : Room} {s : State} {m : MethodId} {args : Array Value} {below : List Frame} {meth : Method} {c : Code} {Q : State → Prop} {D : va_G} {c4 : C4} {A : Nat → Prop} {E : XE} {d : Nat} {M : ME} {nL mc ms : Nat}
theorem s_alen (C : Cx p l R s m meth c D c4 A E d M nL mc ms) : r_alen M (SM p l e R s m args below meth c Q D c4 A nL mc ms) := by
  obtain ⟨hx, hb, -, -, -, ho, -, -, hK, -⟩ := C
  intro pc ls st G k n a ee N hd ha hN h hk hn H locs arr hRp hL hS
  obtain ⟨ws, q0, r1, r2, r3, r4, r5⟩ := hRp.at ha
  have K := h hk hn H locs arr hRp hL hS
  rcases ee with o | ⟨n1, f⟩ | ⟨n1, f⟩ | ⟨n1, f⟩ | ⟨n1, f⟩
  · cases hN
  · cases hN; exact va_alen hx hb hK.2.1 r1 q0 0 r5 (ty := .int) rfl rfl hd K
  · cases hN; exact va_alen hx hb hK.2.1 r1 q0 1 r5 (ty := .boolean) rfl rfl hd K
  · cases hN; exact va_alen hx hb hK.2.1 r1 q0 2 r5 (ty := .long) rfl rfl hd K
  · cases hN; exact va_alen hx hb hK.2.1 r1 q0 3 r5 (ty := .object "java/lang/Object") rfl rfl hd K
theorem s_alen0 (C : Cx p l R s m meth c D c4 A E d M nL mc ms) : r_alen0 E M (SM p l e R s m args below meth c Q D c4 A nL mc ms) := by
  obtain ⟨hx, hb, -, -, -, ho, -, -, hK, -⟩ := C
  intro pc ls st G k n hd h hk hn H locs arr hRp hL hS
  obtain ⟨cell, h1, h2, h3, h4, h5, h6, h7⟩ := hK.2.2.2.1
  exact W.alen hx hb (cell := cell) (by rw [hS.2.1 _ (Array.getElem?_eq_some_iff.mp h1).1 h7]; exact h1) h2 (n := 0) h5 rfl rfl hd (h hk hn H locs arr hRp hL hS)
theorem s_sld (C : Cx p l R s m meth c D c4 A E d M nL mc ms) : r_sld E M (SM p l e R s m args below meth c Q D c4 A nL mc ms) := by
  obtain ⟨hx, hb, -, -, -, ho, -, -, hK, -⟩ := C
  intro pc ls st G k n i hd hi h hk hn H locs arr hRp hL hS
  obtain ⟨-, -, -, -, -, -, -, -, -, -, g1, g2, g3, -⟩ := hK
  exact va_sld hx hb g1 g3 g2 hS hi hd (h hk hn H locs arr hRp hL hS)
theorem s_slen (C : Cx p l R s m meth c D c4 A E d M nL mc ms) : r_slen E M (SM p l e R s m args below meth c Q D c4 A nL mc ms) := by
  obtain ⟨hx, hb, -, -, -, ho, -, -, hK, -⟩ := C
  intro pc ls st G k n hd h hk hn H locs arr hRp hL hS
  obtain ⟨-, -, -, -, -, -, -, -, -, -, g1, g2, g3, -⟩ := hK
  exact va_slen hx hb g1 g3 g2 hS hd (h hk hn H locs arr hRp hL hS)
theorem s_cast (C : Cx p l R s m meth c D c4 A E d M nL mc ms) : r_cast M (SM p l e R s m args below meth c Q D c4 A nL mc ms) := by
  obtain ⟨hx, hb, -, -, -, ho, -, -, hK, -⟩ := C
  intro pc ls st G k n i a ci fs q nm hd hw ha hc hq h hk hn H locs arr hRp hL hS
  subst hq
  obtain ⟨ws, q0, r1, r2, r3, r4, r5⟩ := hRp.at ha
  exact va_castS hx hb ho (hK.w hw) (hK.2.1.1 ci q hc).2 (va_recv hK.2.1 r1 hc r5) hd (h hk hn H locs arr hRp hL hS)
theorem s_gets (C : Cx p l R s m meth c D c4 A E d M nL mc ms) : r_gets E M (SM p l e R s m args below meth c Q D c4 A nL mc ms) := by
  obtain ⟨hx, hb, -, -, -, ho, -, -, hK, -⟩ := C
  intro pc ls st G k n i hd hw h hk hn H locs arr hRp hL hS
  exact va_gets hx hb hK.2.2.1 hS ho (hK.w hw) (fun _ h => h) hd (h hk hn H locs arr hRp hL hS)
theorem s_ldcM (C : Cx p l R s m meth c D c4 A E d M nL mc ms) : r_ldcM E M (SM p l e R s m args below meth c Q D c4 A nL mc ms) := by
  obtain ⟨hx, hb, -, -, -, ho, -, -, hK, -⟩ := C
  intro pc ls st G k n i hd hw h hk hn H locs arr hRp hL hS
  exact va_ldcM hx hb ho (hK.w hw) hK.2.2.2.2.2.2.1 hd (h hk hn H locs arr hRp hL hS)
theorem s_getC (C : Cx p l R s m meth c D c4 A E d M nL mc ms) : r_getC E d M (SM p l e R s m args below meth c Q D c4 A nL mc ms) := by
  obtain ⟨hx, hb, -, hml, -, ho, -, -, hK, -, -, hf, hlo, -⟩ := C
  intro pc ls st G k n i a N f hd hw h1 hst ha h hk hn H locs arr hRp hL hS
  obtain ⟨ws, q0, r1, r2, r3, r4, r5⟩ := hRp.at ha
  obtain ⟨kA, co, -, -, -, e1⟩ := (hK.2.1.2 3 (c4.2.2.2, .object "java/lang/Object") rfl).2
  refine va_getC hx hb (hml.trans hL.2.1.symm) ho (hK.w hw) (hK.w tw_gc1) (C := "[Ljava/lang/Object;") (hK.w tw_gc2) (hK.w tw_gc3) (hK.w tw_gc4) hK.2.2.2.2.2.2.1 ⟨_, r1 q0 _ r5, rfl, ?_⟩ (by omega) ?_ hd (h hk hn H locs arr hRp hL hS)
  · exact e1
  · unfold cats at hst; omega
theorem s_copy (C : Cx p l R s m meth c D c4 A E d M nL mc ms) : r_copy d M (SM p l e R s m args below meth c Q D c4 A nL mc ms) := by
  obtain ⟨hx, hb, -, hml, -, ho, -, -, hK, -, -, hf, hlo, -⟩ := C
  intro pc ls st G k n i a b N1 N2 f g L hd hw h1 hst hab ha hbb hL31 hL1 hL2 hel h hk hn H locs arr hRp hL hS
  obtain ⟨ws, q0, r1, r2, r3, r4, r5⟩ := hRp.at ha
  obtain ⟨q1, r6⟩ := r3 b _ hbb
  have hcl : (nI L).toNatClampNeg = L := nI_clamp hL31
  have hc0 : (0 : Int32).toNatClampNeg = 0 := rfl
  have hnw : nativeFrameWords "java/lang/System" "arraycopy" 5 = 7 := by decide +kernel
  refine va_copyM hx hb (hml.trans hL.2.1.symm) ho (hK.w hw) (hK.w tw_ac1) (hK.w tw_ac2) (hK.w tw_ac3) hK.2.1 r1 r2 hS q0 q1 3 3 r5 r6 rfl rfl (by decide) (by decide) (nI_pos hL31) (by rw [hcl, hc0]; omega) (by rw [hcl, hc0]; omega) ?_ (by omega) ?_ hd (fun H1 locs1 g1 g2 g3 => ?_)
  · intro j hj y hy
    rw [hcl] at hj
    rw [hc0, Nat.zero_add] at hy
    obtain ⟨ci, fs, q, x1, x2, x3⟩ := hel j hj y hy
    obtain ⟨k9, x4⟩ := r3 y _ x1
    obtain ⟨cell, y1, y2, y3⟩ := va_recv hK.2.1 r1 x2 x4
    obtain ⟨hfc, kC, hkC, -⟩ := (hK.2.1.1 ci q x2).2
    refine ⟨cell, y1, y2, ⟨kC, ?_⟩, fun comp hcomp => ?_⟩
    · rw [← Option.some.inj (hfc.symm.trans y3)]; exact hkC
    · obtain ⟨c0, t0, z1, z2, z3⟩ := Cond.castable_spec (hK.w (args := args) x3)
      rw [← Option.some.inj (z2.symm.trans hcomp), ← Option.some.inj (z1.symm.trans y3)]
      exact z3
  · unfold cats at hst; rw [hnw]; omega
  · rw [hcl, hc0] at g1 g2
    obtain ⟨w1, w2⟩ := rep_set (e := hR N2 (va_cpy f g 0 0 L)) r2 r3 r4 r6
    exact h hk hn H1 locs1 arr ⟨_, g1, g2, w1, w2⟩ hL g3
theorem s_max (C : Cx p l R s m meth c D c4 A E d M nL mc ms) : r_max d M (SM p l e R s m args below meth c Q D c4 A nL mc ms) := by
  obtain ⟨hx, hb, -, hml, -, ho, -, -, hK, hRc, hRs, hf, hlo, -⟩ := C
  intro pc ls st G k n i x y hd hw h1 hst h hk hn H locs arr hRp hL hS
  exact va_mmax hx hb (hml.trans hL.2.1.symm) ho (hK.w hw) (hK.w tw_mx1) (hK.w tw_mx2) (hK.w tw_mx3) (by omega) (by unfold cats at hst; omega) (by rw [hRc]; exact hk) (by rw [hRs]; exact hn) hd (h hk hn H locs arr hRp hL hS)
theorem s_min (C : Cx p l R s m meth c D c4 A E d M nL mc ms) : r_min d M (SM p l e R s m args below meth c Q D c4 A nL mc ms) := by
  obtain ⟨hx, hb, -, hml, -, ho, -, -, hK, hRc, hRs, hf, hlo, -⟩ := C
  intro pc ls st G k n i x y hd hw h1 hst h hk hn H locs arr hRp hL hS
  exact va_mmin hx hb (hml.trans hL.2.1.symm) ho (hK.w hw) (hK.w tw_mn1) (hK.w tw_mx2) (hK.w tw_mn3) (by omega) (by unfold cats at hst; omega) (by rw [hRc]; exact hk) (by rw [hRs]; exact hn) hd (h hk hn H locs arr hRp hL hS)
theorem s_xr2 (C : Cx p l R s m meth c D c4 A E d M nL mc ms) : XR2 E d M mc ms (SM p l e R s m args below meth c Q D c4 A nL mc ms) :=
  ⟨s_get C, s_put C, s_new C, s_newA C, s_newO C, s_iald C, s_zald C, s_lald C, s_aald C, s_iast C, s_zast C, s_last C, s_aast C, s_alen C, s_alen0 C, s_sld C, s_slen C, s_cast C, s_gets C, s_ldcM C, s_getC C, s_copy C, s_max C, s_min C⟩
end HEAP2
end
section
/-! ===== BEGIN a constructor that throws (launches without stack traces) ===== -/
section VXIA
variable {p : Program} {l : Launch} {e : Env} {R : Room} {s : State} {m : MethodId} {args : Array Value} {below : List Frame} {meth : Method} {c : Code} {T : State} {locs : List Loc} {cells slots : Nat}
theorem vx_callI (X : Stand p l e R s m args below meth c T locs cells slots) (hexec : p.tables.exec = Jvm.exec) {own : String} {index : Nat} {y : MethodName} {bytes : ByteArray} {maxL : Nat}
    (hown : s.vm.findClass own = some m.cls) (hy1 : y.name = "<init>") (hlink : (Cond.methodLink own index y).before args s = true) (hinst : (Cond.instanceMethod y).before args s = true)
    (hcode : (Cond.code y bytes maxL none).before args s = true) (hy : y.cls ≠ "java/lang/invoke/MethodHandle" ∧ y.cls ≠ "java/lang/invoke/VarHandle")
    {W9 : Nat} {Pre : Pt → Array Value → Prop} {Post : Pt → Array Value → Option Value → Pt → Prop} {PostX : Pt → Array Value → Addr → Pt → Prop} (hK : vx_Back l R p e below s args y 3 W9 Pre Post PostX)
    {g : JFrame} (hg : g.method = m) (hsize : g.locals.size = c.maxLocals) {a : Addr} {argsL rest : List Value} (hlen : ∀ sig, parseMethodDescriptor y.desc = some sig → argsL.length = sig.parameters.length)
    (hstack : g.stack = argsL.reverse ++ .ref a :: rest) (hW : 2 * g.monitorRoom + (rest.map fun v => v.category).sum ≤ W9) (hdg : decode c.code g.pc = .ok (.invokespecial index, 3))
    (hpre : ∀ vm₁, s.WarmedH vm₁ → Pre ⟨T.setVm vm₁, locs, cells, slots⟩ (Value.ref a :: argsL).toArray) :
    (∃ (v : Option Value) (vm₁ : Vm) (B : Pt), s.WarmedH vm₁ ∧ Stand p l e R s m args below meth c B.U B.locs B.cells B.slots ∧ Post ⟨T.setVm vm₁, locs, cells, slots⟩ (Value.ref a :: argsL).toArray v B ∧
      ∀ target, Steps p.tables e below (B.U.setTop { g with pc := g.pc + 3, stack := v.toList ++ rest }) target → Steps p.tables e below (T.setTop g) target) ∨
    (∃ (q : Addr) (vm₁ : Vm) (B : Pt), s.WarmedH vm₁ ∧ Stand p l e R s m args below meth c B.U B.locs B.cells B.slots ∧ PostX ⟨T.setVm vm₁, locs, cells, slots⟩ (Value.ref a :: argsL).toArray q B ∧
      Steps p.tables e below (T.setTop g) ((B.U.setTop { g with stack := rest }).pushFrame (.throwing q))) := by
  subst hg
  have hpl : e.platform.magicAccessors = ({} : Platform).magicAccessors := by rw [X.admits.platform]
  obtain ⟨mk, methM, cM, kP, vm₁, hnamed, hmethM, hcodeM, -, hlocalsM, -, hkP, -, hW₁, hstep₁⟩ := Steps.initColdArgs (e := e) X.here hexec X.warmed hpl hown hy1 hy hlink hinst hcode (f := g) rfl hlen hstack hdg
  have X₁ := X.noted hW₁
  rcases hK g.method meth c ⟨T.setVm vm₁, locs, cells, slots⟩ { g with stack := rest } (.invokespecial index) mk (Value.ref a :: argsL).toArray X₁ rfl hsize hdg hW (X₁.named hnamed) (hpre vm₁ X₁.warmed) with ⟨v, B, X', hpost, hsteps⟩ | ⟨q, B, X', hpost, hsteps⟩
  · exact Or.inl ⟨v, vm₁, B, X₁.warmed, X', hpost, fun target h => hstep₁ _ fun acts => by rw [doInvoke_state]; exact hsteps.trans h⟩
  · exact Or.inr ⟨q, vm₁, B, X₁.warmed, X', hpost, hstep₁ _ fun acts => by rw [doInvoke_state]; exact hsteps⟩
end VXIA
section VXIB
variable {p : Program} {l : Launch} {e : Env} {R : Room} {s : State} {m : MethodId} {args : Array Value} {below : List Frame} {meth : Method} {c : Code} {H : Heap} {locs : List Loc} {cells slots : Nat}
variable {y : MethodName} {bytes cc : ByteArray} {maxL nL mc ms n index : Nat} {ret : Option FieldType} {ws : List Cond} {rm : Room} {Pc : Array Value → State → Prop} {Qc : Array Value → State → Outcome → State → Prop} {XC : String → State → State → Prop} {free : Addr → Prop} {Ts : List Cond} {own C : String} {b : Addr} {As rest : List Value} {g : JFrame}
theorem vx_runI (S : CallFix p m c cc nL s args Ts own) (hM : vx_Met l y ws rm Pc Qc XC mc ms free) (cw : CallB R s args own index y bytes maxL none ws rm mc ms n ∧ y.name = "<init>" ∧ (Cond.instanceMethod y).before args s = true) (hp : PreS s H Pc (.ref b :: As))
    (hg : g.method = m) (hn : As.length = n) (hsize : g.locals.size = nL) (hstack : g.stack = As.reverse ++ .ref b :: rest) (hW : 2 * g.monitorRoom + (rest.map fun v => v.category).sum ≤ 8) (hdg : decode cc g.pc = .ok (.invokespecial index, 3)) (hf : cells + mc ≤ R.cells ∧ slots + ms ≤ R.slots) :
    vx_Run p l e R s m args below meth c H locs cells slots mc ms g rest (Qc (Value.ref b :: As).toArray) XC free := by
  have hK : vx_Back l R p e below s args y 3 8 (PreOf R mc ms Pc) (PostOf Qc mc ms free) (vx_Post XC mc ms free) := vx_callBack cw.1 hM hp.1
  obtain ⟨⟨-, -, -, -, -, -, hcode, -, hy, hlen, hl⟩, hy1, hin⟩ := cw
  obtain ⟨hx, hb, hml, ho, -⟩ := S
  have hPc := hp.2
  intro T hT X
  rcases vx_callI X hx (bytes := bytes) (maxL := maxL) ho hy1 hl hin hcode hy hK hg (hsize.trans hml.symm) (a := b) (argsL := As) (rest := rest) (fun sig h => hn.trans (hlen sig h)) hstack hW (by rw [hb]; exact hdg)
    (fun vm₁ hW₁ => ⟨hf.1, hf.2, hPc (T.setVm vm₁) hT hW₁⟩) with ⟨v, vm₁, ⟨U', l2, c2, s2⟩, hW₁, X', ⟨g', mk, t, L, e1, e2, hq, h1, hL, h2, h3⟩, st⟩ | ⟨q, vm₁, ⟨U', l2, c2, s2⟩, hW₁, X', ⟨g', mk, t, L, E, ce, e1, e2, hq, hce, hcv, hcl, h1, hL, h2, h3⟩, st⟩
  · dsimp only [Pt.U, Pt.locs, Pt.cells, Pt.slots] at X' e1 e2 h1 h2 h3 st
    subst h1; subst h2; subst h3
    exact Or.inl ⟨v, (T.setVm vm₁).calling g' mk (Value.ref b :: As).toArray, t, U', L, hT, X', hL, e1, e2, hq, st⟩
  · dsimp only [Pt.U, Pt.locs, Pt.cells, Pt.slots] at X' e1 e2 h1 h2 h3 st hcl
    subst h1; subst h2; subst h3
    exact Or.inr ⟨q, (T.setVm vm₁).calling g' mk (Value.ref b :: As).toArray, t, U', L, E, ce, hT, X', hL, e1, e2, hq, hce, hcv, vx_cls hW₁ hcl, st⟩
end VXIB
/-! ===== END ===== -/
/-! ===== BEGIN a private constructor of a nest mate that throws ===== -/
section VXIC
variable {p : Program} {l : Launch} {e : Env} {R : Room} {s : State} {m : MethodId} {args : Array Value} {below : List Frame} {meth : Method} {c : Code} {T : State} {locs : List Loc} {cells slots : Nat}
theorem vx_callIN (X : Stand p l e R s m args below meth c T locs cells slots) (hexec : p.tables.exec = Jvm.exec) {own : String} {index : Nat} {host : String} {y : MethodName} {bytes : ByteArray} {maxL : Nat}
    (hown : s.vm.findClass own = some m.cls) (hy1 : y.name = "<init>") (hlink : (Cond.methodLinkNest own index y host).before args s = true) (hinst : (Cond.instanceMethod y).before args s = true)
    (hcode : (Cond.code y bytes maxL none).before args s = true) (hy : y.cls ≠ "java/lang/invoke/MethodHandle" ∧ y.cls ≠ "java/lang/invoke/VarHandle")
    {W9 : Nat} {Pre : Pt → Array Value → Prop} {Post : Pt → Array Value → Option Value → Pt → Prop} {PostX : Pt → Array Value → Addr → Pt → Prop} (hK : vx_Back l R p e below s args y 3 W9 Pre Post PostX)
    {g : JFrame} (hg : g.method = m) (hsize : g.locals.size = c.maxLocals) {a : Addr} {argsL rest : List Value} (hlen : ∀ sig, parseMethodDescriptor y.desc = some sig → argsL.length = sig.parameters.length)
    (hstack : g.stack = argsL.reverse ++ .ref a :: rest) (hW : 2 * g.monitorRoom + (rest.map fun v => v.category).sum ≤ W9) (hdg : decode c.code g.pc = .ok (.invokespecial index, 3))
    (hpre : ∀ vm₁, s.WarmedH vm₁ → Pre ⟨T.setVm vm₁, locs, cells, slots⟩ (Value.ref a :: argsL).toArray) :
    (∃ (v : Option Value) (vm₁ : Vm) (B : Pt), s.WarmedH vm₁ ∧ Stand p l e R s m args below meth c B.U B.locs B.cells B.slots ∧ Post ⟨T.setVm vm₁, locs, cells, slots⟩ (Value.ref a :: argsL).toArray v B ∧
      ∀ target, Steps p.tables e below (B.U.setTop { g with pc := g.pc + 3, stack := v.toList ++ rest }) target → Steps p.tables e below (T.setTop g) target) ∨
    (∃ (q : Addr) (vm₁ : Vm) (B : Pt), s.WarmedH vm₁ ∧ Stand p l e R s m args below meth c B.U B.locs B.cells B.slots ∧ PostX ⟨T.setVm vm₁, locs, cells, slots⟩ (Value.ref a :: argsL).toArray q B ∧
      Steps p.tables e below (T.setTop g) ((B.U.setTop { g with stack := rest }).pushFrame (.throwing q))) := by
  subst hg
  have hpl : e.platform.magicAccessors = ({} : Platform).magicAccessors := by rw [X.admits.platform]
  obtain ⟨mk, methM, cM, kP, vm₁, hnamed, hmethM, hcodeM, -, hlocalsM, -, hkP, -, hW₁, hstep₁⟩ := Steps.initColdArgsNest (e := e) X.here hexec X.warmed hpl hown hy1 hy hlink hinst hcode (f := g) rfl hlen hstack hdg
  have X₁ := X.noted hW₁
  rcases hK g.method meth c ⟨T.setVm vm₁, locs, cells, slots⟩ { g with stack := rest } (.invokespecial index) mk (Value.ref a :: argsL).toArray X₁ rfl hsize hdg hW (X₁.named hnamed) (hpre vm₁ X₁.warmed) with ⟨v, B, X', hpost, hsteps⟩ | ⟨q, B, X', hpost, hsteps⟩
  · exact Or.inl ⟨v, vm₁, B, X₁.warmed, X', hpost, fun target h => hstep₁ _ fun acts => by rw [doInvoke_state]; exact hsteps.trans h⟩
  · exact Or.inr ⟨q, vm₁, B, X₁.warmed, X', hpost, hstep₁ _ fun acts => by rw [doInvoke_state]; exact hsteps⟩
end VXIC
section VXID
variable {p : Program} {l : Launch} {e : Env} {R : Room} {s : State} {m : MethodId} {args : Array Value} {below : List Frame} {meth : Method} {c : Code} {H : Heap} {locs : List Loc} {cells slots : Nat}
theorem vx_runIN {y : MethodName} {bytes cc : ByteArray} {maxL nL mc ms n index : Nat} {ws : List Cond} {rm : Room} {Pc : Array Value → State → Prop} {Qc : Array Value → State → Outcome → State → Prop} {XC : String → State → State → Prop} {free : Addr → Prop} {Ts : List Cond} {own host : String} {b : Addr} {As rest : List Value} {g : JFrame}
    (S : CallFix p m c cc nL s args Ts own) (hM : vx_Met l y ws rm Pc Qc XC mc ms free) (cw : va_CN R s args own index y host bytes maxL none ws rm mc ms n ∧ y.name = "<init>" ∧ (Cond.instanceMethod y).before args s = true) (hp : PreS s H Pc (.ref b :: As))
    (hg : g.method = m) (hn : As.length = n) (hsize : g.locals.size = nL) (hstack : g.stack = As.reverse ++ .ref b :: rest) (hW : 2 * g.monitorRoom + (rest.map fun v => v.category).sum ≤ 8) (hdg : decode cc g.pc = .ok (.invokespecial index, 3)) (hf : cells + mc ≤ R.cells ∧ slots + ms ≤ R.slots) :
    vx_Run p l e R s m args below meth c H locs cells slots mc ms g rest (Qc (Value.ref b :: As).toArray) XC free := by
  obtain ⟨⟨⟨hrc, hrs, hfr, hlo, hws, hcw⟩, hcode, hini, hy, hlen, hl⟩, hx1, hx2⟩ := cw
  have hK : vx_Back l R p e below s args y 3 8 (PreOf R mc ms Pc) (PostOf Qc mc ms free) (vx_Post XC mc ms free) := vx_back (bytes := bytes) (maxL := maxL) (ret := none) hM hp.1 hrc hrs hfr hlo hws hcw (fun a' U hW => word_at hW (Or.inl (by first | rfl | simp [Cond.onTables, Cond.keeps, Cond.steady])) hini)
  obtain ⟨hx, hb, hml, ho, -⟩ := S
  have hPc := hp.2
  intro T hT X
  rcases vx_callIN X hx (bytes := bytes) (maxL := maxL) ho hx1 hl hx2 hcode hy hK hg (hsize.trans hml.symm) (a := b) (argsL := As) (rest := rest) (fun sig h => hn.trans (hlen sig h)) hstack hW (by rw [hb]; exact hdg)
    (fun vm₁ hW₁ => ⟨hf.1, hf.2, hPc (T.setVm vm₁) hT hW₁⟩) with ⟨v, vm₁, ⟨U', l2, c2, s2⟩, hW₁, X', ⟨g', mk, t, L, e1, e2, hq, h1, hL, h2, h3⟩, st⟩ | ⟨q, vm₁, ⟨U', l2, c2, s2⟩, hW₁, X', ⟨g', mk, t, L, E, ce, e1, e2, hq, hce, hcv, hcl, h1, hL, h2, h3⟩, st⟩
  · dsimp only [Pt.U, Pt.locs, Pt.cells, Pt.slots] at X' e1 e2 h1 h2 h3 st
    subst h1; subst h2; subst h3
    exact Or.inl ⟨v, (T.setVm vm₁).calling g' mk (Value.ref b :: As).toArray, t, U', L, hT, X', hL, e1, e2, hq, st⟩
  · dsimp only [Pt.U, Pt.locs, Pt.cells, Pt.slots] at X' e1 e2 h1 h2 h3 st hcl
    subst h1; subst h2; subst h3
    exact Or.inr ⟨q, (T.setVm vm₁).calling g' mk (Value.ref b :: As).toArray, t, U', L, E, ce, hT, X', hL, e1, e2, hq, hce, hcv, vx_cls hW₁ hcl, st⟩
end VXID
/-! ===== END ===== -/
/-! ===== BEGIN a private method of a nest mate that may throw (follows va_callVN, va_callSN, va_runVN, va_runSN) ===== -/
section
variable {p : Program} {l : Launch} {e : Env} {R : Room} {s : State} {m : MethodId} {args : Array Value} {below : List Frame} {meth : Method} {c : Code} {H : Heap} {locs : List Loc} {cells slots : Nat}
variable {T : State}
theorem vx_callVN (X : Stand p l e R s m args below meth c T locs cells slots) (hexec : p.tables.exec = Jvm.exec) {own C : String} {index : Nat} {host : String} {y : MethodName} {bytes : ByteArray} {maxL : Nat} {ret : Option FieldType}
    (hown : s.vm.findClass own = some m.cls) (hlink : (Cond.methodLinkNest own index y host).before args s = true) (hinst : (Cond.instanceMethod y).before args s = true) (hsel : (Cond.selects C y y).before args s = true)
    (hcode : (Cond.code y bytes maxL ret).before args s = true) (hy : y.cls ≠ "java/lang/invoke/MethodHandle" ∧ y.cls ≠ "java/lang/invoke/VarHandle")
    {W : Nat} {Pre : Pt → Array Value → Prop} {Post : Pt → Array Value → Option Value → Pt → Prop} {PostX : Pt → Array Value → Addr → Pt → Prop} (hK : vx_Back l R p e below s args y 3 W Pre Post PostX)
    {b : Addr} {cellB : Cell} (hcell : T.heap[b]? = some cellB) (hobj : cellB.vm.isStatics = false) (hcls : s.vm.findClass C = some cellB.cls)
    {g : JFrame} (hg : g.method = m) (hsize : g.locals.size = c.maxLocals) {argsL rest : List Value} (hlen : ∀ sig, parseMethodDescriptor y.desc = some sig → argsL.length = sig.parameters.length)
    (hstack : g.stack = argsL.reverse ++ .ref b :: rest) (hW : 2 * g.monitorRoom + (rest.map fun v => v.category).sum ≤ W) (hdg : decode c.code g.pc = .ok (.invokevirtual index, 3))
    (hpre : ∀ vm₁, s.WarmedH vm₁ → Pre ⟨T.setVm vm₁, locs, cells, slots⟩ (Value.ref b :: argsL).toArray) :
    (∃ (v : Option Value) (vm₁ : Vm) (B : Pt), s.WarmedH vm₁ ∧ Stand p l e R s m args below meth c B.U B.locs B.cells B.slots ∧ Post ⟨T.setVm vm₁, locs, cells, slots⟩ (Value.ref b :: argsL).toArray v B ∧
      ∀ target, Steps p.tables e below (B.U.setTop { g with pc := g.pc + 3, stack := v.toList ++ rest }) target → Steps p.tables e below (T.setTop g) target) ∨
    (∃ (q : Addr) (vm₁ : Vm) (B : Pt), s.WarmedH vm₁ ∧ Stand p l e R s m args below meth c B.U B.locs B.cells B.slots ∧ PostX ⟨T.setVm vm₁, locs, cells, slots⟩ (Value.ref b :: argsL).toArray q B ∧
      Steps p.tables e below (T.setTop g) ((B.U.setTop { g with stack := rest }).pushFrame (.throwing q))) := by
  obtain ⟨mk, methM, hnamed, hmethM, hstM, habM⟩ := Cond.instanceMethod_spec hinst
  obtain ⟨methM', cM, hmethM', -, -, -, -, -, -, hsigM⟩ := Cond.code_spec hnamed hcode
  cases hmethM.symm.trans hmethM'
  obtain ⟨c2, r2, m2, q1, q2, q3, q4, kP, hkP, hkPi⟩ := Cond.selects_spec hsel
  cases hcls.symm.trans q1
  cases (State.methodFound?_of_named hnamed hy).symm.trans q2
  cases hnamed.symm.trans q3
  have hselP : selectMethod e.platform s.vm cellB.cls mk = .method mk := by rw [Launch.admits_selectMethod X.admits]; exact q4
  obtain ⟨vm₁, X₁, hstep₁⟩ := X.invokevirtualNest hexec hown hlink hnamed hmethM hstM hkP hkPi hy (a := b) (cell := cellB) hcell
    (fun z h => by rw [h] at hobj; cases hobj) hselP hmethM habM hkP hkPi (g := g) hg (argsL := argsL) (rest := rest) (hlen _ hsigM) hstack hdg
  rcases hK m meth c ⟨T.setVm vm₁, locs, cells, slots⟩ { g with stack := rest } (.invokevirtual index) mk (Value.ref b :: argsL).toArray X₁ hg hsize hdg hW (X₁.named hnamed) (hpre vm₁ X₁.warmed) with ⟨v, B, X', hpost, hsteps⟩ | ⟨q, B, X', hpost, hsteps⟩
  · exact Or.inl ⟨v, vm₁, B, X₁.warmed, X', hpost, fun target h => hstep₁ _ fun acts => by rw [doInvoke_state]; exact hsteps.trans h⟩
  · exact Or.inr ⟨q, vm₁, B, X₁.warmed, X', hpost, hstep₁ _ fun acts => by rw [doInvoke_state]; exact hsteps⟩
theorem vx_callSN (X : Stand p l e R s m args below meth c T locs cells slots) (hexec : p.tables.exec = Jvm.exec) {own : String} {index : Nat} {host : String} {y : MethodName} {bytes : ByteArray} {maxL : Nat} {ret : Option FieldType}
    (hown : s.vm.findClass own = some m.cls) (hlink : (Cond.methodLinkNest own index y host).before args s = true) (hstat : (Cond.static y).before args s = true) (hinit : (Cond.initialized y.cls).before args s = true)
    (hcode : (Cond.code y bytes maxL ret).before args s = true) (hy : y.cls ≠ "java/lang/invoke/MethodHandle" ∧ y.cls ≠ "java/lang/invoke/VarHandle")
    {W : Nat} {Pre : Pt → Array Value → Prop} {Post : Pt → Array Value → Option Value → Pt → Prop} {PostX : Pt → Array Value → Addr → Pt → Prop} (hK : vx_Back l R p e below s args y 3 W Pre Post PostX)
    {g : JFrame} (hg : g.method = m) (hsize : g.locals.size = c.maxLocals) {argsL rest : List Value} (hlen : ∀ sig, parseMethodDescriptor y.desc = some sig → argsL.length = sig.parameters.length)
    (hstack : g.stack = argsL.reverse ++ rest) (hW : 2 * g.monitorRoom + (rest.map fun v => v.category).sum ≤ W) (hdg : decode c.code g.pc = .ok (.invokestatic index, 3))
    (hpre : ∀ vm₁, s.WarmedH vm₁ → Pre ⟨T.setVm vm₁, locs, cells, slots⟩ argsL.toArray) :
    (∃ (v : Option Value) (vm₁ : Vm) (B : Pt), s.WarmedH vm₁ ∧ Stand p l e R s m args below meth c B.U B.locs B.cells B.slots ∧ Post ⟨T.setVm vm₁, locs, cells, slots⟩ argsL.toArray v B ∧
      ∀ target, Steps p.tables e below (B.U.setTop { g with pc := g.pc + 3, stack := v.toList ++ rest }) target → Steps p.tables e below (T.setTop g) target) ∨
    (∃ (q : Addr) (vm₁ : Vm) (B : Pt), s.WarmedH vm₁ ∧ Stand p l e R s m args below meth c B.U B.locs B.cells B.slots ∧ PostX ⟨T.setVm vm₁, locs, cells, slots⟩ argsL.toArray q B ∧
      Steps p.tables e below (T.setTop g) ((B.U.setTop { g with stack := rest }).pushFrame (.throwing q))) := by
  obtain ⟨mk, hnamed⟩ := Cond.code_named hcode
  obtain ⟨methM, cM, hmethM, -, -, -, -, -, -, hsigM⟩ := Cond.code_spec hnamed hcode
  have hstatic : methM.isStatic = true := Cond.static_spec hnamed hmethM hstat
  obtain ⟨kP, hkP, -⟩ := className_of_methodNamed hnamed
  have hinitP : kP.init = .initialized := Cond.initialized_spec (findClass_of_methodNamed hnamed) hkP hinit
  obtain ⟨vm₁, X₁, hstep₁⟩ := X.invokestaticNest hexec hown hlink hnamed hmethM hstatic hkP hinitP hy (g := g) hg (argsL := argsL) (rest := rest) (hlen _ hsigM) hstack hdg
  rcases hK m meth c ⟨T.setVm vm₁, locs, cells, slots⟩ { g with stack := rest } (.invokestatic index) mk argsL.toArray X₁ hg hsize hdg hW (X₁.named hnamed) (hpre vm₁ X₁.warmed) with ⟨v, B, X', hpost, hsteps⟩ | ⟨q, B, X', hpost, hsteps⟩
  · exact Or.inl ⟨v, vm₁, B, X₁.warmed, X', hpost, fun target h => hstep₁ _ fun acts => by rw [doInvoke_state]; exact hsteps.trans h⟩
  · exact Or.inr ⟨q, vm₁, B, X₁.warmed, X', hpost, hstep₁ _ fun acts => by rw [doInvoke_state]; exact hsteps⟩
theorem vx_runVN {y : MethodName} {bytes cc : ByteArray} {maxL nL mc ms n index : Nat} {ret : Option FieldType} {ws : List Cond} {rm : Room} {Pc : Array Value → State → Prop} {Qc : Array Value → State → Outcome → State → Prop} {XC : String → State → State → Prop} {free : Addr → Prop} {Ts : List Cond} {own C host : String} {b : Addr} {As rest : List Value} {g : JFrame}
    (S : CallFix p m c cc nL s args Ts own) (hM : vx_Met l y ws rm Pc Qc XC mc ms free) (cw : va_CN R s args own index y host bytes maxL ret ws rm mc ms n ∧ (Cond.instanceMethod y).before args s = true ∧ (Cond.selects C y y).before args s = true) (hp : PreV s H C b Pc As)
    (hg : g.method = m) (hn : As.length = n) (hsize : g.locals.size = nL) (hstack : g.stack = As.reverse ++ .ref b :: rest) (hW : 2 * g.monitorRoom + (rest.map fun v => v.category).sum ≤ 8) (hdg : decode cc g.pc = .ok (.invokevirtual index, 3)) (hf : cells + mc ≤ R.cells ∧ slots + ms ≤ R.slots) :
    vx_Run p l e R s m args below meth c H locs cells slots mc ms g rest (Qc (Value.ref b :: As).toArray) XC free := by
  obtain ⟨⟨⟨hrc, hrs, hfr, hlo, hws, hcw⟩, hcode, hini, hy, hlen, hl⟩, hx1, hx2⟩ := cw
  have hK : vx_Back l R p e below s args y 3 8 (PreOf R mc ms Pc) (PostOf Qc mc ms free) (vx_Post XC mc ms free) := vx_back (bytes := bytes) (maxL := maxL) (ret := ret) hM hp.1 hrc hrs hfr hlo hws hcw (fun a' U hW => word_at hW (Or.inl (by first | rfl | simp [Cond.onTables, Cond.keeps, Cond.steady])) hini)
  obtain ⟨hx, hb, hml, ho, -⟩ := S
  obtain ⟨-, ⟨cellB, hcB, hoB, hclB⟩, hPc⟩ := hp
  intro T hT X
  rcases vx_callVN X hx (C := C) (bytes := bytes) (maxL := maxL) (ret := ret) ho hl hx1 hx2 hcode hy hK (by rw [hT]; exact hcB) hoB hclB hg (hsize.trans hml.symm) (argsL := As) (rest := rest) (fun sig h => hn.trans (hlen sig h)) hstack hW (by rw [hb]; exact hdg)
    (fun vm₁ hW₁ => ⟨hf.1, hf.2, hPc (T.setVm vm₁) hT hW₁⟩) with ⟨v, vm₁, ⟨U', l2, c2, s2⟩, hW₁, X', ⟨g', mk, t, L, e1, e2, hq, h1, hL, h2, h3⟩, st⟩ | ⟨q, vm₁, ⟨U', l2, c2, s2⟩, hW₁, X', ⟨g', mk, t, L, E, ce, e1, e2, hq, hce, hcv, hcl, h1, hL, h2, h3⟩, st⟩
  · dsimp only [Pt.U, Pt.locs, Pt.cells, Pt.slots] at X' e1 e2 h1 h2 h3 st
    subst h1; subst h2; subst h3
    exact Or.inl ⟨v, (T.setVm vm₁).calling g' mk (Value.ref b :: As).toArray, t, U', L, hT, X', hL, e1, e2, hq, st⟩
  · dsimp only [Pt.U, Pt.locs, Pt.cells, Pt.slots] at X' e1 e2 h1 h2 h3 st hcl
    subst h1; subst h2; subst h3
    exact Or.inr ⟨q, (T.setVm vm₁).calling g' mk (Value.ref b :: As).toArray, t, U', L, E, ce, hT, X', hL, e1, e2, hq, hce, hcv, vx_cls hW₁ hcl, st⟩
theorem vx_runSN {y : MethodName} {bytes cc : ByteArray} {maxL nL mc ms n index : Nat} {ret : Option FieldType} {ws : List Cond} {rm : Room} {Pc : Array Value → State → Prop} {Qc : Array Value → State → Outcome → State → Prop} {XC : String → State → State → Prop} {free : Addr → Prop} {Ts : List Cond} {own host : String} {As rest : List Value} {g : JFrame}
    (S : CallFix p m c cc nL s args Ts own) (hM : vx_Met l y ws rm Pc Qc XC mc ms free) (cw : va_CN R s args own index y host bytes maxL ret ws rm mc ms n ∧ (Cond.static y).before args s = true ∧ True) (hp : PreS s H Pc As)
    (hg : g.method = m) (hn : As.length = n) (hsize : g.locals.size = nL) (hstack : g.stack = As.reverse ++ rest) (hW : 2 * g.monitorRoom + (rest.map fun v => v.category).sum ≤ 8) (hdg : decode cc g.pc = .ok (.invokestatic index, 3)) (hf : cells + mc ≤ R.cells ∧ slots + ms ≤ R.slots) :
    vx_Run p l e R s m args below meth c H locs cells slots mc ms g rest (Qc As.toArray) XC free := by
  obtain ⟨⟨⟨hrc, hrs, hfr, hlo, hws, hcw⟩, hcode, hini, hy, hlen, hl⟩, hx1, hx2⟩ := cw
  have hK : vx_Back l R p e below s args y 3 8 (PreOf R mc ms Pc) (PostOf Qc mc ms free) (vx_Post XC mc ms free) := vx_back (bytes := bytes) (maxL := maxL) (ret := ret) hM hp.1 hrc hrs hfr hlo hws hcw (fun a' U hW => word_at hW (Or.inl (by first | rfl | simp [Cond.onTables, Cond.keeps, Cond.steady])) hini)
  obtain ⟨hx, hb, hml, ho, -⟩ := S
  have hPc := hp.2
  intro T hT X
  rcases vx_callSN X hx (bytes := bytes) (maxL := maxL) (ret := ret) ho hl hx1 hini hcode hy hK hg (hsize.trans hml.symm) (argsL := As) (rest := rest) (fun sig h => hn.trans (hlen sig h)) hstack hW (by rw [hb]; exact hdg)
    (fun vm₁ hW₁ => ⟨hf.1, hf.2, hPc (T.setVm vm₁) hT hW₁⟩) with ⟨v, vm₁, ⟨U', l2, c2, s2⟩, hW₁, X', ⟨g', mk, t, L, e1, e2, hq, h1, hL, h2, h3⟩, st⟩ | ⟨q, vm₁, ⟨U', l2, c2, s2⟩, hW₁, X', ⟨g', mk, t, L, E, ce, e1, e2, hq, hce, hcv, hcl, h1, hL, h2, h3⟩, st⟩
  · dsimp only [Pt.U, Pt.locs, Pt.cells, Pt.slots] at X' e1 e2 h1 h2 h3 st
    subst h1; subst h2; subst h3
    exact Or.inl ⟨v, (T.setVm vm₁).calling g' mk As.toArray, t, U', L, hT, X', hL, e1, e2, hq, st⟩
  · dsimp only [Pt.U, Pt.locs, Pt.cells, Pt.slots] at X' e1 e2 h1 h2 h3 st hcl
    subst h1; subst h2; subst h3
    exact Or.inr ⟨q, (T.setVm vm₁).calling g' mk As.toArray, t, U', L, E, ce, hT, X', hL, e1, e2, hq, hce, hcv, vx_cls hW₁ hcl, st⟩
end
/-! ===== END ===== -/
end
section
/-! calls, ends, and the soundness of the whole -/
theorem HF_none {own : String} {pc : Nat} {X : String} {hh : List (Nat × Nat × Nat × Nat)} (h : HF own pc X hh none) : ∀ z ∈ tableOf hh, covers z pc = false ∨ (z.catchType ≠ 0 ∧ ∃ nm : String, tW (.classLink own z.catchType nm) ∧ (X, nm) ∈ nc_list) := by
  induction hh with
  | nil => intro z hz; cases hz
  | cons q hs ih =>
    intro z hz
    rcases h with ⟨h1, h2⟩ | ⟨h1, h2, nm, h3, h4⟩
    · rcases List.mem_cons.mp hz with rfl | hz
      · exact Or.inl h1
      · exact ih h2 z hz
    · rcases h4 with ⟨-, h4⟩ | ⟨h4, h5⟩
      · cases h4
      · rcases List.mem_cons.mp hz with rfl | hz
        · exact Or.inr ⟨h2, nm, h3, h4⟩
        · exact ih h5 z hz
theorem HF_some {own : String} {pc : Nat} {X : String} {hh : List (Nat × Nat × Nat × Nat)} {t : Nat} (h : HF own pc X hh (some t)) : ∃ (pre : List ExceptionTableEntry) (x : ExceptionTableEntry) (suf : List ExceptionTableEntry), tableOf hh = pre ++ x :: suf ∧
    (∀ z ∈ pre, covers z pc = false ∨ (z.catchType ≠ 0 ∧ ∃ nm : String, tW (.classLink own z.catchType nm) ∧ (X, nm) ∈ nc_list)) ∧ covers x pc = true ∧ x.catchType ≠ 0 ∧ x.handlerPc = t ∧ ∃ nm : String, tW (.classLink own x.catchType nm) ∧ tW (.castable X nm) := by
  induction hh with
  | nil => cases h
  | cons q hs ih =>
    rcases h with ⟨h1, h2⟩ | ⟨h1, h2, nm, h3, h4⟩
    · obtain ⟨pre, x, suf, g1, g2, g3⟩ := ih h2
      refine ⟨⟨q.1, q.2.1, q.2.2.1, q.2.2.2⟩ :: pre, x, suf, by rw [List.cons_append, ← g1]; rfl, fun z hz => ?_, g3⟩
      rcases List.mem_cons.mp hz with rfl | hz
      · exact Or.inl h1
      · exact g2 z hz
    · rcases h4 with ⟨h4, h5⟩ | ⟨h4, h5⟩
      · cases h5
        exact ⟨[], ⟨q.1, q.2.1, q.2.2.1, q.2.2.2⟩, tableOf hs, rfl, (fun z hz => by cases hz), h1, h2, rfl, nm, h3, h4⟩
      · obtain ⟨pre, x, suf, g1, g2, g3⟩ := ih h5
        refine ⟨⟨q.1, q.2.1, q.2.2.1, q.2.2.2⟩ :: pre, x, suf, by rw [List.cons_append, ← g1]; rfl, fun z hz => ?_, g3⟩
        rcases List.mem_cons.mp hz with rfl | hz
        · exact Or.inr ⟨h2, nm, h3, h4⟩
        · exact g2 z hz
def rmOf (d mc ms : Nat) : Room := { frames := d, cells := mc, slots := ms, locals := 30 * d }
def PcOf (D : va_G) (c4 : C4) (A : Nat → Prop) (E : XE) (as : List Value) (G : HP) : Array Value → State → Prop := va_Pc as (fun U => KS D c4 A E U U.heap ∧ Rep D c4 A G U.heap)
def QcOf (D : va_G) (c4 : C4) (A : Nat → Prop) (P : Ps) : Array Value → State → Outcome → State → Prop := fun _ st o t => ∃ (v : Option Value) (G' : HP), o = .returned v ∧ P (.inl v) G' ∧ Rep D c4 A G' t.heap ∧ va_F A st t
def XcOf (D : va_G) (c4 : C4) (A : Nat → Prop) (P : Ps) : String → State → State → Prop := fun X st t => ∃ G' : HP, P (.inr X) G' ∧ Rep D c4 A G' t.heap ∧ va_F A st t
/-- a method's contract over the machine -/
def MetOK (l : Launch) (D : va_G) (c4 : C4) (A : Nat → Prop) (E : XE) (d : Nat) : SPt := fun y mc ms as G P => ∃ cc maxL ret hh, Body y cc maxL ret hh ∧ vx_Met l y [codeW y cc maxL ret hh] (rmOf d mc ms) (PcOf D c4 A E as G) (QcOf D c4 A P) (XcOf D c4 A P) mc ms A
section CALLS
variable {p : Program} {l : Launch} {e : Env} {R : Room} {s : State} {m : MethodId} {args : Array Value} {below : List Frame} {meth : Method} {c : Code} {Q : State → Prop} {D : va_G} {c4 : C4} {A : Nat → Prop} {E : XE} {d : Nat} {M : ME} {nL mc ms : Nat} {P : Ps} {Φ : SPt}
/-- what the end of a body owes when something flies out of it -/
def HOut (p : Program) (l : Launch) (e : Env) (R : Room) (s : State) (m : MethodId) (args : Array Value) (below : List Frame) (meth : Method) (c : Code) (Q : State → Prop) (D : va_G) (c4 : C4) (A : Nat → Prop) (M : ME) (mc ms : Nat) (P : Ps) : Prop :=
  ∀ (pc k n : Nat) (arr : Array Slot) (rest : List Value) (G : HP) (X : String) (q : Addr) (ce : Cell) (H : Heap) (locs : List Loc), HF M.1.cls pc X M.2.2.2 none → P (.inr X) G → k ≤ mc → n ≤ ms → Rep D c4 A G H → va_S A s.heap H locs → H[q]? = some ce → ce.vm = .none → s.vm.findClass X = some ce.cls → vx_W p l e R s m args below meth c H locs k n Q (F0 m pc arr rest) q
theorem call_go (C : Cx p l R s m meth c D c4 A E d M nL mc ms) (hO : HOut p l e R s m args below meth c Q D c4 A M mc ms P) {pc : Nat} {ls : List (Option Value)} {rest st0 : List Value} {k n mc' ms' : Nat} {H : Heap} {locs : List Loc} {arr : Array Slot} {a : Array Value} (hk : k + mc' ≤ mc) (hn : n + ms' ≤ ms) (hL : LR arr nL ls) (hS : va_S A s.heap H locs)
    (hr : vx_Run p l e R s m args below meth c H locs k n mc' ms' (F0 m pc arr st0) rest (QcOf D c4 A (KT M P (SM p l e R s m args below meth c Q D c4 A nL mc ms) pc ls rest (k + mc') (n + ms')) a) (XcOf D c4 A (KT M P (SM p l e R s m args below meth c Q D c4 A nL mc ms) pc ls rest (k + mc') (n + ms'))) A) :
    W p l e R s m args below meth c H locs k n Q (F0 m pc arr st0) := by
  obtain ⟨hx, hb, -, -, hlk, ho, -, htb, hK, -⟩ := C
  intro T hT X
  rcases hr T hT X with ⟨v, st₀, t, T', L, h0, X', hL', e1, e2, ⟨v', G', hv, hP, hRp, hF⟩, st⟩ | ⟨q, st₀, t, T', L, X0, ce, h0, X', hL', e1, e2, ⟨G', hP, hRp, hF⟩, hce, hcv, hcl, st⟩
  · cases hv
    obtain ⟨k1, k2, k3⟩ := vx_keep h0 e1 hS (fun _ _ h => h) (fun _ h => h) hL' hF
    obtain ⟨t2, a1, b1⟩ := hP hk hn T'.heap (locs ++ L) arr (by rw [e1]; exact hRp) hL k3 T' rfl X'
    exact ⟨t2, st t2 a1, b1⟩
  · obtain ⟨k1, k2, k3⟩ := vx_keep h0 e1 hS (fun _ _ h => h) (fun _ h => h) hL' hF
    rcases hP with ⟨g1, g2⟩ | ⟨hd, g1, g2⟩
    · obtain ⟨t2, a1, b1⟩ := hO pc (k + mc') (n + ms') arr rest G' X0 q ce T'.heap (locs ++ L) g1 g2 hk hn (by rw [e1]; exact hRp) k3 (by rw [e1]; exact hce) hcv hcl T' rfl X'
      exact ⟨t2, st.trans a1, b1⟩
    · obtain ⟨pre, x, suf, f1, f2, f3, f4, f5, nm, f6, f7⟩ := HF_some g1
      have K := g2 q hk hn T'.heap (locs ++ L) arr (by rw [e1]; exact hRp) hL k3
      rw [← f5] at K
      obtain ⟨t2, a1, b1⟩ := vx_catch (rest := rest) ho pre x suf (htb.trans f1) (fun z hz => by
        rcases f2 z hz with h | ⟨h1, nm2, h2, h3⟩
        · exact Or.inl h
        · exact Or.inr ⟨h1, nm2, hK.w h2, hK.2.2.2.2.2.2.2.2.2.1 (X0, nm2) h3⟩) f3 f4 (hK.w f6) (hK.w f7) (by rw [e1]; exact hce) hcv hcl K T' rfl X'
      exact ⟨t2, st.trans a1, b1⟩
theorem pcOf_blind {as : List Value} {G : HP} : FrameBlind (PcOf D c4 A E as G) := fun a U g mk h => ⟨h.1, KS.moved (s := U) (State.WarmedH.refl U) (Nat.le_refl _) (fun _ _ _ => rfl) h.2.1, h.2.2⟩
theorem pcOf_at (C : Cx p l R s m meth c D c4 A E d M nL mc ms) {as : List Value} {G : HP} {H : Heap} {locs : List Loc} (hRp : Rep D c4 A G H) (hS : va_S A s.heap H locs) (U : State) (hU : U.heap = H) (hW : s.WarmedH U.vm) : PcOf D c4 A E as G as.toArray U := by
  obtain ⟨-, -, -, -, -, -, -, -, hK, -⟩ := C
  refine ⟨rfl, ?_, by rw [hU]; exact hRp⟩
  rw [hU]
  exact KS.moved hW hS.1 hS.2.1 hK
theorem codeW_warm {y : MethodName} {cc : ByteArray} {maxL : Nat} {ret : Option FieldType} {hh : List (Nat × Nat × Nat × Nat)} (hB : Body y cc maxL ret hh) (hb : (codeW y cc maxL ret hh).before #[] s = true) : ∀ w ∈ [codeW y cc maxL ret hh], ∀ (a' : Array Value) (U : State), s.WarmedH U.vm → w.before a' U = true := by
  intro w hw a' U hW
  rcases List.mem_cons.mp hw with rfl | hw
  · exact kW_use hB.1.2 (kW_warm hB.1.2 hW hb)
  · cases hw
theorem nmh_len {y : MethodName} {n : Nat} (h : nmh y n) : ∀ sig, parseMethodDescriptor y.desc = some sig → n = sig.parameters.length := fun sig hs => by
  have h2 := h.2
  rw [hs] at h2
  exact (Option.some.inj h2).symm
theorem s_invS (hΦ : ∀ y mc ms as G P, Φ y mc ms as G P → MetOK l D c4 A E d y mc ms as G P) (C : Cx p l R s m meth c D c4 A E d M nL mc ms) (hO : HOut p l e R s m args below meth c Q D c4 A M mc ms P) : r_invS Φ M mc ms P (SM p l e R s m args below meth c Q D c4 A nL mc ms) := by
  intro pc ls st G k n i y as mc' ms' hd hcl hst hk1 hn1 hf hk hn H locs arr hRp hL hS
  obtain ⟨hx, hb, -, hml, -, ho, -, -, hK, hRc, hRs, hfr, hlo, -⟩ := id C
  obtain ⟨cc, maxL, ret, hh, hB, hM⟩ := hΦ _ _ _ _ _ _ hf
  have hcw := codeW_warm (s := s) hB (hK.1 _ hB.1)
  have hlc : 8 + (maxL + 11) + (rmOf d mc' ms').locals ≤ R.locals := by show 8 + (maxL + 11) + 30 * d ≤ _; have := hB.2.2.1; omega
  have hst' : 2 * (F0 m pc arr (as.reverse ++ st)).monitorRoom + (st.map fun v => v.category).sum ≤ 8 := lv_room hst
  refine call_go C hO hk1 hn1 hL hS (a := as.toArray) (rest := st) ?_
  cases hh with
  | nil =>
    rcases hcl with ⟨h1, h2, h3, h4⟩ | ⟨h1, ⟨host, h2⟩, h3, h4, -⟩
    · exact vx_runS (own := M.1.cls) (Ts := []) ⟨hx, hb, hml, ho, fun _ h => nomatch h⟩ hM ⟨⟨rfl, rfl, hfr, hlc, hcw, List.mem_cons_self, hK.w hB.1, hK.w h4, h1.1, nmh_len h1, hK.w h2⟩, hK.w h3⟩ ⟨pcOf_blind, pcOf_at C hRp hS⟩ rfl rfl hL.2.1 rfl hst' hd ⟨by rw [hRc]; exact hk1, by rw [hRs]; exact hn1⟩
    · exact vx_runSN (own := M.1.cls) (Ts := []) ⟨hx, hb, hml, ho, fun _ h => nomatch h⟩ hM ⟨⟨⟨rfl, rfl, hfr, hlc, hcw, List.mem_cons_self⟩, hK.w hB.1, hK.w h4, h1.1, nmh_len h1, hK.w h2⟩, hK.w h3, trivial⟩ ⟨pcOf_blind, pcOf_at C hRp hS⟩ rfl rfl hL.2.1 rfl hst' hd ⟨by rw [hRc]; exact hk1, by rw [hRs]; exact hn1⟩
  | cons q hs =>
    rcases hcl with ⟨h1, h2, h3, h4⟩ | ⟨h1, ⟨host, h2⟩, h3, h4, h5⟩
    · exact vx_runSX (hh := q :: hs) (own := M.1.cls) (Ts := []) ⟨hx, hb, hml, ho, fun _ h => nomatch h⟩ hM ⟨⟨rfl, rfl, hfr, hlc, hcw, List.mem_cons_self⟩, hK.w hB.1, hK.w h4, h1.1, nmh_len h1, hK.w h2, hK.w h3⟩ ⟨pcOf_blind, pcOf_at C hRp hS⟩ rfl rfl hL.2.1 rfl hst' hd ⟨by rw [hRc]; exact hk1, by rw [hRs]; exact hn1⟩
    · rcases hB.2.2.2.1 with h | h
      · cases h
      · exact absurd h h5
theorem s_invV (hΦ : ∀ y mc ms as G P, Φ y mc ms as G P → MetOK l D c4 A E d y mc ms as G P) (C : Cx p l R s m meth c D c4 A E d M nL mc ms) (hO : HOut p l e R s m args below meth c Q D c4 A M mc ms P) : r_invV Φ M mc ms P (SM p l e R s m args below meth c Q D c4 A nL mc ms) := by
  intro pc ls st G k n i y b as mc' ms' ci fs hd hcl hbb hst hk1 hn1 hf hk hn H locs arr hRp hL hS
  obtain ⟨hx, hb, -, hml, -, ho, -, -, hK, hRc, hRs, hfr, hlo, -⟩ := id C
  obtain ⟨cc, maxL, ret, hh, hB, hM⟩ := hΦ _ _ _ _ _ _ hf
  have hcw := codeW_warm (s := s) hB (hK.1 _ hB.1)
  have hlc : 8 + (maxL + 11) + (rmOf d mc' ms').locals ≤ R.locals := by show 8 + (maxL + 11) + 30 * d ≤ _; have := hB.2.2.1; omega
  have hst' : 2 * (F0 m pc arr (as.reverse ++ .ref b :: st)).monitorRoom + (st.map fun v => v.category).sum ≤ 8 := lv_room hst
  refine call_go C hO hk1 hn1 hL hS (a := (Value.ref b :: as).toArray) (rest := st) ?_
  obtain ⟨h1, h2, h3, h4, h5, q, hq, h6⟩ := hcl
  obtain ⟨ws, q0, r1, r2, r3, r4, r5⟩ := hRp.at hbb
  rcases hB.2.2.2.1 with rfl | h
  · exact vx_runV (own := M.1.cls) (Ts := []) ⟨hx, hb, hml, ho, fun _ h => nomatch h⟩ hM ⟨⟨rfl, rfl, hfr, hlc, hcw, List.mem_cons_self, hK.w hB.1, hK.w h4, h1.1, nmh_len h1, hK.w h2⟩, hK.w h3, hK.w h6⟩ ⟨pcOf_blind, va_recv hK.2.1 r1 hq r5, pcOf_at C hRp hS⟩ rfl rfl hL.2.1 rfl hst' hd ⟨by rw [hRc]; exact hk1, by rw [hRs]; exact hn1⟩
  · exact absurd h h5
theorem s_invI (hΦ : ∀ y mc ms as G P, Φ y mc ms as G P → MetOK l D c4 A E d y mc ms as G P) (C : Cx p l R s m meth c D c4 A E d M nL mc ms) (hO : HOut p l e R s m args below meth c Q D c4 A M mc ms P) : r_invI Φ M mc ms P (SM p l e R s m args below meth c Q D c4 A nL mc ms) := by
  intro pc ls st G k n i y b as mc' ms' hd hcl hst hk1 hn1 hf hk hn H locs arr hRp hL hS
  obtain ⟨hx, hb, -, hml, -, ho, -, -, hK, hRc, hRs, hfr, hlo, -⟩ := id C
  obtain ⟨cc, maxL, ret, hh, hB, hM⟩ := hΦ _ _ _ _ _ _ hf
  have hcw := codeW_warm (s := s) hB (hK.1 _ hB.1)
  have hlc : 8 + (maxL + 11) + (rmOf d mc' ms').locals ≤ R.locals := by show 8 + (maxL + 11) + 30 * d ≤ _; have := hB.2.2.1; omega
  have hst' : 2 * (F0 m pc arr (as.reverse ++ .ref b :: st)).monitorRoom + (st.map fun v => v.category).sum ≤ 8 := lv_room hst
  refine call_go C hO hk1 hn1 hL hS (a := (Value.ref b :: as).toArray) (rest := st) ?_
  have hhn : hh = [] := by
    rcases hB.2.2.2.1 with h | h
    · exact h
    · rcases hcl with ⟨-, -, -, -, h5, -⟩ | ⟨-, -, -, -, h5, -⟩ <;> exact absurd h h5
  subst hhn
  rcases hcl with ⟨h1, h2, h3, h4, h5, h6⟩ | ⟨h1, ⟨host, h2⟩, h3, h4, h5, h6⟩
  · have hrn := hB.2.2.2.2 h6
    subst hrn
    exact vx_runI (own := M.1.cls) (Ts := []) ⟨hx, hb, hml, ho, fun _ h => nomatch h⟩ hM ⟨⟨rfl, rfl, hfr, hlc, hcw, List.mem_cons_self, hK.w hB.1, hK.w h4, h1.1, nmh_len h1, hK.w h2⟩, h6, hK.w h3⟩ ⟨pcOf_blind, pcOf_at C hRp hS⟩ rfl rfl hL.2.1 rfl hst' hd ⟨by rw [hRc]; exact hk1, by rw [hRs]; exact hn1⟩
  · have hrn := hB.2.2.2.2 h6
    subst hrn
    exact vx_runIN (own := M.1.cls) (Ts := []) ⟨hx, hb, hml, ho, fun _ h => nomatch h⟩ hM ⟨⟨⟨rfl, rfl, hfr, hlc, hcw, List.mem_cons_self⟩, hK.w hB.1, hK.w h4, h1.1, nmh_len h1, hK.w h2⟩, h6, hK.w h3⟩ ⟨pcOf_blind, pcOf_at C hRp hS⟩ rfl rfl hL.2.1 rfl hst' hd ⟨by rw [hRc]; exact hk1, by rw [hRs]; exact hn1⟩
theorem s_obj (C : Cx p l R s m meth c D c4 A E d M nL mc ms) : r_obj M (SM p l e R s m args below meth c Q D c4 A nL mc ms) := by
  obtain ⟨hx, hb, -, hml, -, ho, -, -, hK, hRc, hRs, hf, hlo, -⟩ := C
  intro pc ls st G k n i a hd hw hst h hk hn H locs arr hRp hL hS
  refine W.objInit (g := F0 m pc arr (.ref a :: st)) (a := a) (rest := st) hx hb ho (hK.w hw) (hK.w tw_oi1) (hK.w tw_oi2) rfl (hL.2.1.trans hml.symm) rfl hd (by omega) ?_ (h hk hn H locs arr hRp hL hS)
  have : 2 * (F0 m pc arr (.ref a :: st)).monitorRoom + (st.map fun v => v.category).sum ≤ 8 := lv_room hst
  omega
-- the ends
def HRet (p : Program) (l : Launch) (e : Env) (R : Room) (s : State) (m : MethodId) (args : Array Value) (below : List Frame) (meth : Method) (c : Code) (Q : State → Prop) (D : va_G) (c4 : C4) (A : Nat → Prop) (M : ME) (mc ms : Nat) (P : Ps) : Prop :=
  ∀ (pc k n : Nat) (arr : Array Slot) (G : HP) (H : Heap) (locs : List Loc), k ≤ mc → n ≤ ms → Rep D c4 A G H → va_S A s.heap H locs →
    (∀ (v : Int32) (ty : FieldType), decode M.2.1 pc = .ok (.ireturn, 1) → M.2.2.1 = some ty → narrow ty (.int v) = .int v → P (.inl (some (.int v))) G → W p l e R s m args below meth c H locs k n Q (F0 m pc arr [.int v])) ∧
    (∀ (v : Value) (rt : FieldType), decode M.2.1 pc = .ok (.areturn, 1) → M.2.2.1 = some rt → ((∃ n, rt = .object n) ∨ ∃ t, rt = .array t) → (v = .null ∨ ∃ a, v = .ref a) → P (.inl (some v)) G → W p l e R s m args below meth c H locs k n Q (F0 m pc arr [v])) ∧
    (decode M.2.1 pc = .ok (.return_, 1) → M.2.2.1 = none → P (.inl none) G → W p l e R s m args below meth c H locs k n Q (F0 m pc arr []))
theorem s_iret (hr : HRet p l e R s m args below meth c Q D c4 A M mc ms P) : r_iret M P (SM p l e R s m args below meth c Q D c4 A nL mc ms) := by
  intro pc ls G k n v ty hd h1 h2 hP hk hn H locs arr hRp hL hS
  exact (hr pc k n arr G H locs hk hn hRp hS).1 v ty hd h1 h2 hP
theorem s_aret (hr : HRet p l e R s m args below meth c Q D c4 A M mc ms P) : r_aret M P (SM p l e R s m args below meth c Q D c4 A nL mc ms) := by
  intro pc ls G k n v ty hd h1 h2 h3 hP hk hn H locs arr hRp hL hS
  exact (hr pc k n arr G H locs hk hn hRp hS).2.1 v ty hd h1 h2 h3 hP
theorem s_vret (hr : HRet p l e R s m args below meth c Q D c4 A M mc ms P) : r_vret M P (SM p l e R s m args below meth c Q D c4 A nL mc ms) := by
  intro pc ls G k n hd h1 hP hk hn H locs arr hRp hL hS
  exact (hr pc k n arr G H locs hk hn hRp hS).2.2 hd h1 hP
/-- THE SOUNDNESS -/
theorem wp_sound (hΦ : ∀ y mc ms as G P, Φ y mc ms as G P → MetOK l D c4 A E d y mc ms as G P) (C : Cx p l R s m meth c D c4 A E d M nL mc ms) (hO : HOut p l e R s m args below meth c Q D c4 A M mc ms P) (hr : HRet p l e R s m args below meth c Q D c4 A M mc ms P)
    (ht : r_thr d M mc ms P (SM p l e R s m args below meth c Q D c4 A nL mc ms)) {pc : Nat} {ls : List (Option Value)} {st : List Value} {G : HP} {k n : Nat} (h : WP E Φ d M mc ms P pc ls st G k n) : SM p l e R s m args below meth c Q D c4 A nL mc ms pc ls st G k n :=
  h _ (s_xr1 C) (s_xr2 C) ⟨s_invS hΦ C hO, s_invV hΦ C hO, s_invI hΦ C hO, s_obj C, s_iret hr, s_aret hr, s_vret hr, ht⟩
end CALLS
end
section
/-! a pure method is a method of the machine -/
theorem lg_len : ∀ (as : List Value), (∀ v ∈ as, v1 v) → lg_sl as = as.map Slot.val
  | [], _ => rfl
  | v :: vs, h => by
    have h1 : v.category = 1 := h v List.mem_cons_self
    have ih := lg_len vs fun w hw => h w (List.mem_cons_of_mem _ hw)
    unfold lg_sl at ih ⊢
    rw [List.flatMap_cons, ih, h1]
    rfl
theorem lv_args_mem : ∀ (as : List Value) (o i : Nat) (v : Value), (∀ v ∈ as, v1 v) → as[i]? = some v → (o + i, v) ∈ lv_args o as
  | [], _, _, _, _, h => by simp at h
  | w :: ws, o, i, v, ha, h => by
    have h1 : w.category = 1 := ha w List.mem_cons_self
    unfold lv_args
    rw [h1, if_neg (by decide)]
    cases i with
    | zero =>
      rw [List.getElem?_cons_zero] at h
      cases h
      exact List.mem_cons_self
    | succ i =>
      rw [List.getElem?_cons_succ] at h
      have := lv_args_mem ws (o + 1) i v (fun w hw => ha w (List.mem_cons_of_mem _ hw)) h
      rw [show o + (i + 1) = o + 1 + i by omega]
      exact List.mem_cons_of_mem _ this
theorem enL_get {as : List Value} {n i : Nat} {v : Value} (h : (enL as n)[i]? = some (some v)) : as[i]? = some v := by
  unfold enL at h
  by_cases hi : i < as.length
  · rw [List.getElem?_append_left (by rw [List.length_map]; exact hi), List.getElem?_map] at h
    cases hg : as[i]? with
    | none => rw [hg] at h; cases h
    | some w => rw [hg] at h; cases h; rfl
  · rw [List.getElem?_append_right (by rw [List.length_map]; omega)] at h
    have := List.mem_of_getElem? h
    rw [List.mem_replicate] at this
    exact nomatch this.2
theorem lr_entry {as : List Value} {n : Nat} (ha : ∀ v ∈ as, v1 v) (hn : as.length ≤ n) : LR ((lg_sl as ++ List.replicate (n - (lg_sl as).length) Slot.unset).toArray) n (enL as n) := by
  have hlen : (lg_sl as).length = as.length := by rw [lg_len as ha, List.length_map]
  have h := lv_entry as (n := n) (by rw [hlen]; exact hn)
  refine ⟨by unfold enL; rw [List.length_append, List.length_map, List.length_replicate]; omega, h.1, h.2.1, fun i v hi => ?_⟩
  have hv := enL_get hi
  have := lv_args_mem as 0 i v ha hv
  rw [Nat.zero_add] at this
  exact ⟨h.2.2 (i, v) this, ha v (List.mem_of_getElem? hv)⟩
section MET
variable {p : Program} {l : Launch} {e : Env} {R : Room} {s : State} {m : MethodId} {args : Array Value} {below : List Frame} {meth : Method} {c : Code} {D : va_G} {c4 : C4} {A : Nat → Prop} {E : XE} {d : Nat} {M : ME} {nL mc ms : Nat} {P : Ps}
theorem hOut_of (C : Cx p l R s m meth c D c4 A E d M nL mc ms) : HOut p l e R s m args below meth c (vx_MQ below (QcOf D c4 A P) (XcOf D c4 A P) args s mc ms A) D c4 A M mc ms P := by
  obtain ⟨hx, hb, -, hml, hlk, ho, -, htb, hK, -⟩ := C
  intro pc k n arr rest G X q ce H locs hf hP hk hn hRp hS hce hcv hcl
  exact vx_outP ho hlk (fun z hz => by
    rw [htb] at hz
    rcases HF_none hf z hz with h | ⟨h1, nm, h2, h3⟩
    · exact Or.inl h
    · exact Or.inr ⟨h1, nm, hK.w h2, hK.2.2.2.2.2.2.2.2.2.1 (X, nm) h3⟩) hce hcv hcl (fun t ht _ => ⟨G, hP, by rw [ht]; exact hRp, hS.F ht⟩) hS.2.2 hk hn
theorem hRet_of (C : Cx p l R s m meth c D c4 A E d M nL mc ms) : HRet p l e R s m args below meth c (vx_MQ below (QcOf D c4 A P) (XcOf D c4 A P) args s mc ms A) D c4 A M mc ms P := by
  obtain ⟨hx, hb, hr, hml, hlk, ho, -, htb, hK, -⟩ := C
  intro pc k n arr G H locs hk hn hRp hS
  refine ⟨fun v ty hd h1 h2 hP => vx_ret (W.widen hk hn (W.zret hx hb (hr.trans h1) h2 (fun t ht _ => ⟨_, G, rfl, hP, by rw [ht]; exact hRp, hS.F ht⟩) hS.2.2 hd hlk)),
    fun v rt hd h1 h2 h3 hP => vx_ret (W.widen hk hn (W.aret hx hb (hr.trans h1) h2 h3 (fun t ht _ => ⟨_, G, rfl, hP, by rw [ht]; exact hRp, hS.F ht⟩) hS.2.2 hd hlk)),
    fun hd h1 hP => vx_ret (W.widen hk hn (W.vret hx hb (hr.trans h1) (fun t ht _ => ⟨_, G, rfl, hP, by rw [ht]; exact hRp, hS.F ht⟩) hS.2.2 hd hlk))⟩
theorem s_thr (C : Cx p l R s m meth c D c4 A E d M nL mc ms) : r_thr d M mc ms P (SM p l e R s m args below meth c (vx_MQ below (QcOf D c4 A P) (XcOf D c4 A P) args s mc ms A) D c4 A nL mc ms) := by
  obtain ⟨hx, hb, hr, hml, hlk, ho, -, htb, hK, hRc, hRs, hfr, hlo, hl⟩ := C
  intro pc ls st G k n ik is ic X text d0 d3 d4 hT hh0 hd5 hst hk1 hn1 hP hk hn H locs arr hRp hL hS
  obtain ⟨t1, t2, t3, t4, t5, t6⟩ := hT
  obtain ⟨sa, hstr⟩ := hK.2.2.2.2.2.2.2.1 _ t6
  have hno : ∀ (q : Nat), ∀ x ∈ c.exceptionTable.toList, covers x q = false := fun q x hx => by
    rw [htb, hh0] at hx
    exact nomatch hx
  have hsz : arr.size = c.maxLocals := hL.2.1.trans hml.symm
  have hXC : ∀ t : State, s.vm.Alike t.vm → H.size ≤ t.heap.size → (∀ q : Nat, q < H.size → t.heap[q]? = H[q]?) → XcOf D c4 A P X s t := fun t _ hz hq =>
    ⟨G, hP, hRp.kept hq, Nat.le_trans hS.1 hz, fun q h1 h2 => (hq q (Nat.lt_of_lt_of_le h1 hS.1)).trans (hS.2.1 q h1 h2)⟩
  have hnm : ∀ n ∈ ["java/lang/RuntimeException", "java/lang/Exception"], Bundle.fit n = true := by decide
  have hst' : (st.map fun v => v.category).sum ≤ 8 := hst
  rcases d4 with ⟨d4, d6, d9⟩ | ⟨d4, d7, d10⟩
  · exact vx_throwS (names := ["java/lang/RuntimeException", "java/lang/Exception"]) hx hb hl ho t1 hnm (hK.w t2) (hK.w t3) hstr (fun w hw => hK.w (t4 w hw)) t5 hK.2.2.2.2.1 hK.2.2.2.2.2.1 hS hsz d0 d3 d4 d6 d9 (hno _) (by show 2 + 3 < _; omega) (by show _ + (13 * (2 + 1) + 43) ≤ _; omega) (by rw [hRc]; exact hk1) (by rw [hRs]; exact hn1) hlk hXC hS.2.2 hk1 hn1
  · exact vx_throwSW (names := ["java/lang/RuntimeException", "java/lang/Exception"]) hx hb hl ho t1 hnm (hK.w t2) (hK.w t3) hstr (fun w hw => hK.w (t4 w hw)) t5 hK.2.2.2.2.1 hK.2.2.2.2.2.1 hS hsz d0 d3 d4 d7 d10 (hno _) (by show 2 + 3 < _; omega) (by show _ + (13 * (2 + 1) + 43) ≤ _; omega) (by rw [hRc]; exact hk1) (by rw [hRs]; exact hn1) hlk hXC hS.2.2 hk1 hn1
end MET
theorem sp_met {l : Launch} (hl : l.stackTraces = false) {D : va_G} {c4 : C4} {A : Nat → Prop} {E : XE} : ∀ (d : Nat) (y : MethodName) (mc ms : Nat) (as : List Value) (G : HP) (P : Ps), Sp E d y mc ms as G P → MetOK l D c4 A E d y mc ms as G P
  | 0, _, _, _, _, _, _, h => h.elim
  | d + 1, y, mc, ms, as, G, P, h => by
    obtain ⟨cc, maxL, ret, hh, hB, ha, hn, hW⟩ := h
    have ih := fun y mc ms as G P => sp_met (l := l) hl (D := D) (c4 := c4) (A := A) (E := E) d y mc ms as G P
    refine ⟨cc, maxL, ret, hh, hB, ?_⟩
    have key : ∀ p e s m args below meth c s₁, BodyLoose p l y (headSpec [codeW y cc maxL ret hh] (rmOf (d + 1) mc ms)) cc maxL ret e s m args below meth c s₁ → c.maxLocals = maxL → c.exceptionTable.toList = tableOf hh → PcOf D c4 A E as G args s →
        W p l e (headSpec [codeW y cc maxL ret hh] (rmOf (d + 1) mc ms)).room s m args below meth c s.heap [] 0 0 (vx_MQ below (QcOf D c4 A P) (XcOf D c4 A P) args s mc ms A) (entryFrame m args maxL) := by
      intro p e s m args below meth c s₁ B hml htb hP
      obtain ⟨rfl, hK, hRp⟩ := hP
      have C : Cx p l (headSpec [codeW y cc maxL ret hh] (rmOf (d + 1) mc ms)).room s m meth c D c4 A E d (y, cc, ret, hh) maxL mc ms :=
        ⟨B.exec, B.bytes, B.returns, hml, B.notSynchronized, findClass_of_methodNamed B.named, (name_of_methodNamed B.named B.method).1, htb, hK, rfl, rfl, Nat.le_refl _, Nat.le_refl _, hl⟩
      rw [lg_entry_eq]
      exact wp_sound ih C (hOut_of C) (hRet_of C) (s_thr C) hW (Nat.zero_le _) (Nat.zero_le _) s.heap [] _ hRp (lr_entry ha hn) va_S.rf
    cases hh with
    | nil =>
      refine vx_ofW hB.2.1 (ws' := []) rfl (fun p e s m args below meth c s₁ B hml ht hP => key p e s m args below meth c s₁ B hml ?_ hP)
      exact List.eq_nil_iff_forall_not_mem.mpr fun x hx => ht x hx
    | cons q hs =>
      exact vx_ofWH hB.2.1 (ws' := []) rfl (fun p e s m args below meth c s₁ B hml hP => key p e s m args below meth c s₁ B hml (vx_table (x := y) B (atoms_spec (ws := [codeW y cc maxL ret (q :: hs)]) B.pre _ List.mem_cons_self)) hP)
end
section
/-! the rules as steps -/
def Mono (Φ : SPt) : Prop := ∀ y mc ms as G P P', (∀ o G, P o G → P' o G) → Φ y mc ms as G P → Φ y mc ms as G P'
theorem KT_mono {M : ME} {P P' : Ps} {S : XS} {pc : Nat} {ls : List (Option Value)} {rest : List Value} {k n : Nat} (h : ∀ o G, P o G → P' o G) : ∀ o G, KT M P S pc ls rest k n o G → KT M P' S pc ls rest k n o G := by
  intro o G hk
  rcases o with v | X
  · exact hk
  · rcases hk with ⟨h1, h2⟩ | h1
    · exact Or.inl ⟨h1, h _ _ h2⟩
    · exact Or.inr h1
theorem KT_monoS {M : ME} {P : Ps} {S S' : XS} {pc : Nat} {ls : List (Option Value)} {rest : List Value} {k n : Nat} (h : ∀ pc ls st G k n, S pc ls st G k n → S' pc ls st G k n) : ∀ o G, KT M P S pc ls rest k n o G → KT M P S' pc ls rest k n o G := by
  intro o G hk
  rcases o with v | X
  · exact h _ _ _ _ _ _ hk
  · rcases hk with h1 | ⟨t, h1, h2⟩
    · exact Or.inl h1
    · exact Or.inr ⟨t, h1, fun q => h _ _ _ _ _ _ (h2 q)⟩
theorem wp_mono {E : XE} {Φ : SPt} (hΦ : Mono Φ) {d : Nat} {M : ME} {mc ms : Nat} {P P' : Ps} (h : ∀ o G, P o G → P' o G) {pc : Nat} {ls : List (Option Value)} {st : List Value} {G : HP} {k n : Nat} (hw : WP E Φ d M mc ms P pc ls st G k n) : WP E Φ d M mc ms P' pc ls st G k n := by
  intro S h1 h2 h3
  refine hw S h1 h2 ?_
  obtain ⟨a1, a2, a3, a4, a5, a6, a7, a8⟩ := h3
  exact ⟨fun pc ls st G k n i y as mc' ms' x1 x2 x3 x4 x5 x6 => a1 pc ls st G k n i y as mc' ms' x1 x2 x3 x4 x5 (hΦ _ _ _ _ _ _ _ (KT_mono h) x6),
    fun pc ls st G k n i y b as mc' ms' ci fs x1 x2 x3 x4 x5 x6 x7 => a2 pc ls st G k n i y b as mc' ms' ci fs x1 x2 x3 x4 x5 x6 (hΦ _ _ _ _ _ _ _ (KT_mono h) x7),
    fun pc ls st G k n i y b as mc' ms' x1 x2 x3 x4 x5 x6 => a3 pc ls st G k n i y b as mc' ms' x1 x2 x3 x4 x5 (hΦ _ _ _ _ _ _ _ (KT_mono h) x6), a4,
    fun pc ls G k n v ty x1 x2 x3 x4 => a5 pc ls G k n v ty x1 x2 x3 (h _ _ x4), fun pc ls G k n v rt x1 x2 x3 x4 x5 => a6 pc ls G k n v rt x1 x2 x3 x4 (h _ _ x5), fun pc ls G k n x1 x2 x3 => a7 pc ls G k n x1 x2 (h _ _ x3),
    fun pc ls st G k n ik is ic X text x1 x2 x3 x4 x5 x6 x7 x8 x9 x10 => a8 pc ls st G k n ik is ic X text x1 x2 x3 x4 x5 x6 x7 x8 x9 (h _ _ x10)⟩
theorem sp_mono {E : XE} : ∀ d : Nat, Mono (Sp E d)
  | 0 => fun _ _ _ _ _ _ _ _ h => h.elim
  | d + 1 => by
    intro y mc ms as G P P' h hw
    obtain ⟨cc, maxL, ret, hh, h1, h2, h3, h4⟩ := hw
    exact ⟨cc, maxL, ret, hh, h1, h2, h3, wp_mono (sp_mono d) h h4⟩
/-- the state of a body whose calls go d deep -/
def WX (E : XE) (d : Nat) (M : ME) (mc ms : Nat) (P : Ps) : XS := WP E (Sp E d) d M mc ms P
theorem sp_intro {E : XE} {d : Nat} {y : MethodName} {mc ms : Nat} {as : List Value} {G : HP} {P : Ps} {cc : ByteArray} {maxL : Nat} {ret : Option FieldType} {hh : List (Nat × Nat × Nat × Nat)} (h1 : Body y cc maxL ret hh) (h2 : ∀ v ∈ as, v1 v) (h3 : as.length ≤ maxL) (h4 : WX E d (y, cc, ret, hh) mc ms P 0 (enL as maxL) [] G 0 0) : Sp E (d + 1) y mc ms as G P := ⟨cc, maxL, ret, hh, h1, h2, h3, h4⟩
section WPS
variable {E : XE} {d : Nat} {M : ME} {mc ms : Nat} {P : Ps} {pc pc' : Nat} {ls ls' : List (Option Value)} {st : List Value} {G : HP} {k n : Nat}
theorem kt_v {v : Value} (h : WX E d M mc ms P (pc + 3) ls (v :: st) G k n) : KT M P (WX E d M mc ms P) pc ls st k n (.inl (some v)) G := h
theorem kt_u (h : WX E d M mc ms P (pc + 3) ls st G k n) : KT M P (WX E d M mc ms P) pc ls st k n (.inl none) G := h
theorem kt_x {X : String} (hh : M.2.2.2 = []) (h : P (.inr X) G) : KT M P (WX E d M mc ms P) pc ls st k n (.inr X) G := Or.inl ⟨by rw [hh]; rfl, h⟩
theorem wp_pure {i : Instr} {len : Nat} {st' : List Value} (hd : decode M.2.1 pc = .ok (i, len)) (hp : pst i st = some (len, st')) (hq : pc + len = pc') (h : WX E d M mc ms P pc' ls st' G k n) : WX E d M mc ms P pc ls st G k n := by subst hq; exact fun S h1 h2 h3 => h1.1 _ _ _ _ _ _ _ _ _ hd hp (h S h1 h2 h3)
theorem wp_iconst {c : Int} (v : Int32) (hd : decode M.2.1 pc = .ok (.iconst c, 1)) (hv : Int32.ofInt c = v) (hq : pc + 1 = pc') (h : WX E d M mc ms P pc' ls (.int v :: st) G k n) : WX E d M mc ms P pc ls st G k n := by subst hq; subst hv; exact fun S h1 h2 h3 => h1.1 _ _ _ _ _ _ _ _ _ hd rfl (h S h1 h2 h3)
theorem wp_bipush {c : Int} (v : Int32) (hd : decode M.2.1 pc = .ok (.bipush c, 2)) (hv : (Int8.ofInt c).toInt32 = v) (hq : pc + 2 = pc') (h : WX E d M mc ms P pc' ls (.int v :: st) G k n) : WX E d M mc ms P pc ls st G k n := by subst hq; subst hv; exact fun S h1 h2 h3 => h1.1 _ _ _ _ _ _ _ _ _ hd rfl (h S h1 h2 h3)
theorem wp_sipush {c : Int} (v : Int32) (hd : decode M.2.1 pc = .ok (.sipush c, 3)) (hv : (Int16.ofInt c).toInt32 = v) (hq : pc + 3 = pc') (h : WX E d M mc ms P pc' ls (.int v :: st) G k n) : WX E d M mc ms P pc ls st G k n := by subst hq; subst hv; exact fun S h1 h2 h3 => h1.1 _ _ _ _ _ _ _ _ _ hd rfl (h S h1 h2 h3)
theorem wp_load {i : Instr} {len : Nat} {j : Nat} {v : Value} (hd : decode M.2.1 pc = .ok (i, len)) (hg : lget ls j = some v) (hp : lst i v = some (len, j)) (hq : pc + len = pc') (h : WX E d M mc ms P pc' ls (v :: st) G k n) : WX E d M mc ms P pc ls st G k n := by subst hq; exact fun S h1 h2 h3 => h1.2.1 _ _ _ _ _ _ _ _ _ _ hd hg hp (h S h1 h2 h3)
theorem wp_store {i : Instr} {len : Nat} {j : Nat} {v : Value} (hd : decode M.2.1 pc = .ok (i, len)) (hp : sst i v = some (len, j)) (hj : j < ls.length) (hl : ls.set j (some v) = ls') (hq : pc + len = pc') (h : WX E d M mc ms P pc' ls' st G k n) : WX E d M mc ms P pc ls (v :: st) G k n := by subst hq; subst hl; exact fun S h1 h2 h3 => h1.2.2.1 _ _ _ _ _ _ _ _ _ _ hd hp hj (h S h1 h2 h3)
theorem wp_iinc {j : Nat} {c : Int} {x : Int32} (y : Int32) (hd : decode M.2.1 pc = .ok (.iinc j c, 3)) (hg : lget ls j = some (.int x)) (hy : x + Int32.ofInt c = y) (hl : ls.set j (some (.int y)) = ls') (hq : pc + 3 = pc') (h : WX E d M mc ms P pc' ls' st G k n) : WX E d M mc ms P pc ls st G k n := by subst hq; subst hy; subst hl; exact fun S h1 h2 h3 => h1.2.2.2.1 _ _ _ _ _ _ _ _ _ hd hg (h S h1 h2 h3)
theorem wp_dup {v : Value} (hd : decode M.2.1 pc = .ok (.dup, 1)) (hv : v1 v) (hq : pc + 1 = pc') (h : WX E d M mc ms P pc' ls (v :: v :: st) G k n) : WX E d M mc ms P pc ls (v :: st) G k n := by subst hq; exact fun S h1 h2 h3 => h1.2.2.2.2.1 _ _ _ _ _ _ _ hd hv (h S h1 h2 h3)
theorem wp_dupx {v z : Value} (hd : decode M.2.1 pc = .ok (.dup_x1, 1)) (hv : v1 v) (hz : v1 z) (hq : pc + 1 = pc') (h : WX E d M mc ms P pc' ls (v :: z :: v :: st) G k n) : WX E d M mc ms P pc ls (v :: z :: st) G k n := by subst hq; exact fun S h1 h2 h3 => h1.2.2.2.2.2.1 _ _ _ _ _ _ _ _ hd hv hz (h S h1 h2 h3)
theorem wp_dup2 {v z : Value} (hd : decode M.2.1 pc = .ok (.dup2, 1)) (hv : v1 v) (hz : v1 z) (hq : pc + 1 = pc') (h : WX E d M mc ms P pc' ls (v :: z :: v :: z :: st) G k n) : WX E d M mc ms P pc ls (v :: z :: st) G k n := by subst hq; exact fun S h1 h2 h3 => h1.2.2.2.2.2.2.1 _ _ _ _ _ _ _ _ hd hv hz (h S h1 h2 h3)
theorem wp_pop {v : Value} (hd : decode M.2.1 pc = .ok (.pop, 1)) (hv : v1 v) (hq : pc + 1 = pc') (h : WX E d M mc ms P pc' ls st G k n) : WX E d M mc ms P pc ls (v :: st) G k n := by subst hq; exact fun S h1 h2 h3 => h1.2.2.2.2.2.2.2.1 _ _ _ _ _ _ _ hd hv (h S h1 h2 h3)
theorem wp_div {x y : Int32} (hd : decode M.2.1 pc = .ok (.idiv, 1)) (hy : ¬ y = 0) (hq : pc + 1 = pc') (h : WX E d M mc ms P pc' ls (.int (x / y) :: st) G k n) : WX E d M mc ms P pc ls (.int y :: .int x :: st) G k n := by subst hq; exact fun S h1 h2 h3 => h1.2.2.2.2.2.2.2.2.1 _ _ _ _ _ _ _ _ hd hy (h S h1 h2 h3)
theorem wp_rem {x y : Int32} (hd : decode M.2.1 pc = .ok (.irem, 1)) (hy : ¬ y = 0) (hq : pc + 1 = pc') (h : WX E d M mc ms P pc' ls (.int (x - x / y * y) :: st) G k n) : WX E d M mc ms P pc ls (.int y :: .int x :: st) G k n := by subst hq; exact fun S h1 h2 h3 => h1.2.2.2.2.2.2.2.2.2.1 _ _ _ _ _ _ _ _ hd hy (h S h1 h2 h3)
theorem wp_if {c : Jvm.ClassFile.Cond} {off : Int} (tgt : Nat) {x : Int32} (hd : decode M.2.1 pc = .ok (.ifCond c off, 3)) (ht : (pc : Int) + off = (tgt : Int)) (hq : pc + 3 = pc') (ha : cmpP c x 0 → WX E d M mc ms P tgt ls st G k n) (hb : ¬ cmpP c x 0 → WX E d M mc ms P pc' ls st G k n) : WX E d M mc ms P pc ls (.int x :: st) G k n := by subst hq; exact fun S h1 h2 h3 => h1.2.2.2.2.2.2.2.2.2.2.1 _ _ _ _ _ _ _ _ _ _ hd ht (fun z => ha z S h1 h2 h3) (fun z => hb z S h1 h2 h3)
theorem wp_icmp {c : Jvm.ClassFile.Cond} {off : Int} (tgt : Nat) {x y : Int32} (hd : decode M.2.1 pc = .ok (.if_icmp c off, 3)) (ht : (pc : Int) + off = (tgt : Int)) (hq : pc + 3 = pc') (ha : cmpP c x y → WX E d M mc ms P tgt ls st G k n) (hb : ¬ cmpP c x y → WX E d M mc ms P pc' ls st G k n) : WX E d M mc ms P pc ls (.int y :: .int x :: st) G k n := by subst hq; exact fun S h1 h2 h3 => h1.2.2.2.2.2.2.2.2.2.2.2.1 _ _ _ _ _ _ _ _ _ _ _ hd ht (fun z => ha z S h1 h2 h3) (fun z => hb z S h1 h2 h3)
theorem wp_goto {off : Int} (tgt : Nat) (hd : decode M.2.1 pc = .ok (.goto off, 3)) (ht : (pc : Int) + off = (tgt : Int)) (h : WX E d M mc ms P tgt ls st G k n) : WX E d M mc ms P pc ls st G k n := by exact fun S h1 h2 h3 => h1.2.2.2.2.2.2.2.2.2.2.2.2.1 _ _ _ _ _ _ _ _ hd ht (h S h1 h2 h3)
theorem wp_nul {off : Int} (tgt : Nat) (hd : decode M.2.1 pc = .ok (.ifnull off, 3)) (ht : (pc : Int) + off = (tgt : Int)) (h : WX E d M mc ms P tgt ls st G k n) : WX E d M mc ms P pc ls (.null :: st) G k n := by exact fun S h1 h2 h3 => h1.2.2.2.2.2.2.2.2.2.2.2.2.2.1 _ _ _ _ _ _ _ _ hd ht (h S h1 h2 h3)
theorem wp_nulR {off : Int} {a : Nat} (hd : decode M.2.1 pc = .ok (.ifnull off, 3)) (hq : pc + 3 = pc') (h : WX E d M mc ms P pc' ls st G k n) : WX E d M mc ms P pc ls (.ref a :: st) G k n := by subst hq; exact fun S h1 h2 h3 => h1.2.2.2.2.2.2.2.2.2.2.2.2.2.2.1 _ _ _ _ _ _ _ _ hd (h S h1 h2 h3)
theorem wp_non {off : Int} (hd : decode M.2.1 pc = .ok (.ifnonnull off, 3)) (hq : pc + 3 = pc') (h : WX E d M mc ms P pc' ls st G k n) : WX E d M mc ms P pc ls (.null :: st) G k n := by subst hq; exact fun S h1 h2 h3 => h1.2.2.2.2.2.2.2.2.2.2.2.2.2.2.2.1 _ _ _ _ _ _ _ hd (h S h1 h2 h3)
theorem wp_nonR {off : Int} (tgt : Nat) {a : Nat} (hd : decode M.2.1 pc = .ok (.ifnonnull off, 3)) (ht : (pc : Int) + off = (tgt : Int)) (h : WX E d M mc ms P tgt ls st G k n) : WX E d M mc ms P pc ls (.ref a :: st) G k n := by exact fun S h1 h2 h3 => h1.2.2.2.2.2.2.2.2.2.2.2.2.2.2.2.2.1 _ _ _ _ _ _ _ _ _ hd ht (h S h1 h2 h3)
theorem wp_aeq {off : Int} (tgt : Nat) {a b : Nat} (hd : decode M.2.1 pc = .ok (.if_acmp .eq off, 3)) (ht : (pc : Int) + off = (tgt : Int)) (hq : pc + 3 = pc') (ha : a = b → WX E d M mc ms P tgt ls st G k n) (hb : ¬ a = b → WX E d M mc ms P pc' ls st G k n) : WX E d M mc ms P pc ls (.ref b :: .ref a :: st) G k n := by subst hq; exact fun S h1 h2 h3 => h1.2.2.2.2.2.2.2.2.2.2.2.2.2.2.2.2.2.1 _ _ _ _ _ _ _ _ _ _ hd ht (fun z => ha z S h1 h2 h3) (fun z => hb z S h1 h2 h3)
theorem wp_ane {off : Int} (tgt : Nat) {a b : Nat} (hd : decode M.2.1 pc = .ok (.if_acmp .ne off, 3)) (ht : (pc : Int) + off = (tgt : Int)) (hq : pc + 3 = pc') (ha : ¬ a = b → WX E d M mc ms P tgt ls st G k n) (hb : a = b → WX E d M mc ms P pc' ls st G k n) : WX E d M mc ms P pc ls (.ref b :: .ref a :: st) G k n := by subst hq; exact fun S h1 h2 h3 => h1.2.2.2.2.2.2.2.2.2.2.2.2.2.2.2.2.2.2.1 _ _ _ _ _ _ _ _ _ _ hd ht (fun z => ha z S h1 h2 h3) (fun z => hb z S h1 h2 h3)
theorem wp_swIn {dflt lo hi : Int} {offs : Array Int} {len : Nat} {x : Int32} {off : Int} (tgt : Nat) (hd : decode M.2.1 pc = .ok (.tableswitch dflt lo hi offs, len)) (hl : ¬ x.toInt < lo) (hh : ¬ hi < x.toInt) (ho : offs[(x.toInt - lo).toNat]? = some off) (ht : (pc : Int) + off = (tgt : Int)) (h : WX E d M mc ms P tgt ls st G k n) : WX E d M mc ms P pc ls (.int x :: st) G k n := fun S h1 h2 h3 => h1.2.2.2.2.2.2.2.2.2.2.2.2.2.2.2.2.2.2.2.1 _ _ _ _ _ _ _ _ _ _ _ _ _ _ hd hl hh ho ht (h S h1 h2 h3)
theorem wp_swOut {dflt lo hi : Int} {offs : Array Int} {len : Nat} {x : Int32} (tgt : Nat) (hd : decode M.2.1 pc = .ok (.tableswitch dflt lo hi offs, len)) (hl : x.toInt < lo ∨ hi < x.toInt) (ht : (pc : Int) + dflt = (tgt : Int)) (h : WX E d M mc ms P tgt ls st G k n) : WX E d M mc ms P pc ls (.int x :: st) G k n := fun S h1 h2 h3 => h1.2.2.2.2.2.2.2.2.2.2.2.2.2.2.2.2.2.2.2.2.1 _ _ _ _ _ _ _ _ _ _ _ _ _ hd hl ht (h S h1 h2 h3)
theorem wp_ldc {i : Nat} {v : Int32} (hd : decode M.2.1 pc = .ok (.ldc i, 2)) (hw : tW (.constant M.1.cls i v)) (hq : pc + 2 = pc') (h : WX E d M mc ms P pc' ls (.int v :: st) G k n) : WX E d M mc ms P pc ls st G k n := by subst hq; exact fun S h1 h2 h3 => h1.2.2.2.2.2.2.2.2.2.2.2.2.2.2.2.2.2.2.2.2.2.1 _ _ _ _ _ _ _ _ hd hw (h S h1 h2 h3)
theorem wp_ldcw {i : Nat} {v : Int32} (hd : decode M.2.1 pc = .ok (.ldc_w i, 3)) (hw : tW (.constant M.1.cls i v)) (hq : pc + 3 = pc') (h : WX E d M mc ms P pc' ls (.int v :: st) G k n) : WX E d M mc ms P pc ls st G k n := by subst hq; exact fun S h1 h2 h3 => h1.2.2.2.2.2.2.2.2.2.2.2.2.2.2.2.2.2.2.2.2.2.2 _ _ _ _ _ _ _ _ hd hw (h S h1 h2 h3)
theorem wp_get {i ci kf : Nat} {t : FieldType} {fin : Bool} {de : String} {a : Nat} {fs : List Value} {v : Value} (hd : decode M.2.1 pc = .ok (.getfield i, 3)) (hf : FL M.1.cls i ci kf t fin de) (hg : G a = some (hO ci fs)) (hv : fs[kf]? = some v) (hq : pc + 3 = pc') (h : WX E d M mc ms P pc' ls (v :: st) G k n) : WX E d M mc ms P pc ls (.ref a :: st) G k n := by subst hq; exact fun S h1 h2 h3 => h2.1 _ _ _ _ _ _ _ _ _ _ _ _ _ _ _ hd hf hg hv (h S h1 h2 h3)
theorem wp_put {i ci kf : Nat} {t : FieldType} {de : String} {a : Nat} {fs fs' : List Value} {v : Value} (hd : decode M.2.1 pc = .ok (.putfield i, 3)) (hf : FL M.1.cls i ci kf t false de) (hg : G a = some (hO ci fs)) (hl : kf < fs.length) (hn : narrow t v = v) (ht : fits t v = true) (hs : fs.set kf v = fs') (hq : pc + 3 = pc') (h : WX E d M mc ms P pc' ls st (hu G a (hO ci fs')) k n) : WX E d M mc ms P pc ls (v :: .ref a :: st) G k n := by subst hq; subst hs; exact fun S h1 h2 h3 => h2.2.1 _ _ _ _ _ _ _ _ _ _ _ _ _ _ _ hd hf (Or.inl rfl) hg hl hn ht (h S h1 h2 h3)
theorem wp_putF {i ci kf : Nat} {t : FieldType} {de : String} {a : Nat} {fs fs' : List Value} {v : Value} (hd : decode M.2.1 pc = .ok (.putfield i, 3)) (hf : FL M.1.cls i ci kf t true de) (hi : M.1.name = "<init>") (hc : de = M.1.cls) (hg : G a = some (hO ci fs)) (hl : kf < fs.length) (hn : narrow t v = v) (ht : fits t v = true) (hs : fs.set kf v = fs') (hq : pc + 3 = pc') (h : WX E d M mc ms P pc' ls st (hu G a (hO ci fs')) k n) : WX E d M mc ms P pc ls (v :: .ref a :: st) G k n := by subst hq; subst hs; exact fun S h1 h2 h3 => h2.2.1 _ _ _ _ _ _ _ _ _ _ _ _ _ _ _ hd hf (Or.inr ⟨rfl, hi, hc⟩) hg hl hn ht (h S h1 h2 h3)
theorem wp_new {i ci : Nat} {fs : List Value} (hd : decode M.2.1 pc = .ok (.new i, 3)) (hf : NWc M.1.cls i ci fs) (hk : k + 1 ≤ mc) (hn : n + fs.length ≤ ms) (hq : pc + 3 = pc') (h : ∀ a, G a = none → WX E d M mc ms P pc' ls (.ref a :: st) (hu G a (hO ci fs)) (k + 1) (n + fs.length)) : WX E d M mc ms P pc ls st G k n := by subst hq; exact fun S h1 h2 h3 => h2.2.2.1 _ _ _ _ _ _ _ _ _ hd hf hk hn (fun a ha => h a ha S h1 h2 h3)
theorem wp_newA {i : ArrayType} {x : Int32} (N : Nat) {e : HE} (hd : decode M.2.1 pc = .ok (.newarray i, 2)) (hf : tW (.arrayClass (newarray.typeOf i))) (he : arZ i N = some e) (h0 : ¬ x < 0) (hN : x.toNatClampNeg = N) (hb : N ≤ 1000000) (hk : k + 1 ≤ mc) (hn : n + N ≤ ms) (hq : pc + 2 = pc') (h : ∀ a, G a = none → WX E d M mc ms P pc' ls (.ref a :: st) (hu G a e) (k + 1) (n + N)) : WX E d M mc ms P pc ls (.int x :: st) G k n := by subst hq; exact fun S h1 h2 h3 => h2.2.2.2.1 _ _ _ _ _ _ _ _ _ _ hd hf he h0 hN hb hk hn (fun a ha => h a ha S h1 h2 h3)
theorem wp_newO {i : Nat} {x : Int32} (N : Nat) (hd : decode M.2.1 pc = .ok (.anewarray i, 3)) (hf : tW (.classLink M.1.cls i "java/lang/Object")) (h0 : ¬ x < 0) (hN : x.toNatClampNeg = N) (hb : N ≤ 1000000) (hk : k + 1 ≤ mc) (hn : n + N ≤ ms) (hq : pc + 3 = pc') (h : ∀ a, G a = none → WX E d M mc ms P pc' ls (.ref a :: st) (hu G a (hR N (fun _ => none))) (k + 1) (n + N)) : WX E d M mc ms P pc ls (.int x :: st) G k n := by subst hq; exact fun S h1 h2 h3 => h2.2.2.2.2.1 _ _ _ _ _ _ _ _ _ hd hf h0 hN hb hk hn (fun a ha => h a ha S h1 h2 h3)
theorem wp_iald {a N j : Nat} {f : Nat → Int32} {i : Int32} (hd : decode M.2.1 pc = .ok (.iaload, 1)) (hg : G a = some (hI N f)) (hi : i = nI j) (hj : j < N) (hN : N < 2 ^ 31) (hq : pc + 1 = pc') (h : WX E d M mc ms P pc' ls (.int (f j) :: st) G k n) : WX E d M mc ms P pc ls (.int i :: .ref a :: st) G k n := by subst hq; subst hi; exact fun S h1 h2 h3 => h2.2.2.2.2.2.1 _ _ _ _ _ _ _ _ _ _ hd hg (vp_in_nI hj hN) (by rw [nI_clamp (by omega)]; exact h S h1 h2 h3)
theorem wp_zald {a N j : Nat} {f : Nat → Int32} {i : Int32} (hd : decode M.2.1 pc = .ok (.baload, 1)) (hg : G a = some (hZ N f)) (hi : i = nI j) (hj : j < N) (hN : N < 2 ^ 31) (hq : pc + 1 = pc') (h : WX E d M mc ms P pc' ls (.int (f j) :: st) G k n) : WX E d M mc ms P pc ls (.int i :: .ref a :: st) G k n := by subst hq; subst hi; exact fun S h1 h2 h3 => h2.2.2.2.2.2.2.1 _ _ _ _ _ _ _ _ _ _ hd hg (vp_in_nI hj hN) (by rw [nI_clamp (by omega)]; exact h S h1 h2 h3)
theorem wp_lald {a N j : Nat} {f : Nat → Int64} {i : Int32} (hd : decode M.2.1 pc = .ok (.laload, 1)) (hg : G a = some (hJ N f)) (hi : i = nI j) (hj : j < N) (hN : N < 2 ^ 31) (hq : pc + 1 = pc') (h : WX E d M mc ms P pc' ls (.long (f j) :: st) G k n) : WX E d M mc ms P pc ls (.int i :: .ref a :: st) G k n := by subst hq; subst hi; exact fun S h1 h2 h3 => h2.2.2.2.2.2.2.2.1 _ _ _ _ _ _ _ _ _ _ hd hg (vp_in_nI hj hN) (by rw [nI_clamp (by omega)]; exact h S h1 h2 h3)
theorem wp_aald {a N j : Nat} {f : Nat → Option Nat} {i : Int32} (hd : decode M.2.1 pc = .ok (.aaload, 1)) (hg : G a = some (hR N f)) (hi : i = nI j) (hj : j < N) (hN : N < 2 ^ 31) (hq : pc + 1 = pc') (h : WX E d M mc ms P pc' ls (va_rf (f j) :: st) G k n) : WX E d M mc ms P pc ls (.int i :: .ref a :: st) G k n := by subst hq; subst hi; exact fun S h1 h2 h3 => h2.2.2.2.2.2.2.2.2.1 _ _ _ _ _ _ _ _ _ _ hd hg (vp_in_nI hj hN) (by rw [nI_clamp (by omega)]; exact h S h1 h2 h3)
theorem wp_iast {a N j : Nat} {f : Nat → Int32} {i : Int32} {x : Int32} (hd : decode M.2.1 pc = .ok (.iastore, 1)) (hg : G a = some (hI N f)) (hi : i = nI j) (hj : j < N) (hN : N < 2 ^ 31) (hq : pc + 1 = pc') (h : WX E d M mc ms P pc' ls st (hu G a (hI N (va_up f j x))) k n) : WX E d M mc ms P pc ls (.int x :: .int i :: .ref a :: st) G k n := by subst hq; subst hi; exact fun S h1 h2 h3 => h2.2.2.2.2.2.2.2.2.2.1 _ _ _ _ _ _ _ _ _ _ _ hd hg (vp_in_nI hj hN) (by rw [nI_clamp (by omega)]; exact h S h1 h2 h3)
theorem wp_last {a N j : Nat} {f : Nat → Int64} {i : Int32} {x : Int64} (hd : decode M.2.1 pc = .ok (.lastore, 1)) (hg : G a = some (hJ N f)) (hi : i = nI j) (hj : j < N) (hN : N < 2 ^ 31) (hq : pc + 1 = pc') (h : WX E d M mc ms P pc' ls st (hu G a (hJ N (va_up f j x))) k n) : WX E d M mc ms P pc ls (.long x :: .int i :: .ref a :: st) G k n := by subst hq; subst hi; exact fun S h1 h2 h3 => h2.2.2.2.2.2.2.2.2.2.2.2.1 _ _ _ _ _ _ _ _ _ _ _ hd hg (vp_in_nI hj hN) (by rw [nI_clamp (by omega)]; exact h S h1 h2 h3)
theorem wp_zast {a N j : Nat} {f : Nat → Int32} {i : Int32} {x : Int32} (hd : decode M.2.1 pc = .ok (.bastore, 1)) (hg : G a = some (hZ N f)) (hi : i = nI j) (hj : j < N) (hN : N < 2 ^ 31) (hz : vp_nar .boolean x = x) (hq : pc + 1 = pc') (h : WX E d M mc ms P pc' ls st (hu G a (hZ N (va_up f j x))) k n) : WX E d M mc ms P pc ls (.int x :: .int i :: .ref a :: st) G k n := by subst hq; subst hi; exact fun S h1 h2 h3 => h2.2.2.2.2.2.2.2.2.2.2.1 _ _ _ _ _ _ _ _ _ _ _ hd hg (vp_in_nI hj hN) hz (by rw [nI_clamp (by omega)]; exact h S h1 h2 h3)
theorem wp_aast {a N j b ci : Nat} {f : Nat → Option Nat} {i : Int32} {fs : List Value} {q : vw_C} (hd : decode M.2.1 pc = .ok (.aastore, 1)) (hg : G a = some (hR N f)) (hi : i = nI j) (hj : j < N) (hN : N < 2 ^ 31) (hb : G b = some (hO ci fs)) (hc : vwCl[ci]? = some q) (hw : tW (.castable q.1 "java/lang/Object")) (hq : pc + 1 = pc') (h : WX E d M mc ms P pc' ls st (hu G a (hR N (va_up f j (some b)))) k n) : WX E d M mc ms P pc ls (.ref b :: .int i :: .ref a :: st) G k n := by subst hq; subst hi; exact fun S h1 h2 h3 => h2.2.2.2.2.2.2.2.2.2.2.2.2.1 _ _ _ _ _ _ _ _ _ _ _ _ _ _ hd hg (vp_in_nI hj hN) hb hc hw (by rw [nI_clamp (by omega)]; exact h S h1 h2 h3)
theorem wp_alen {a N : Nat} {e : HE} (hd : decode M.2.1 pc = .ok (.arraylength, 1)) (hg : G a = some e) (he : alen e = some N) (hq : pc + 1 = pc') (h : WX E d M mc ms P pc' ls (.int (nI N) :: st) G k n) : WX E d M mc ms P pc ls (.ref a :: st) G k n := by subst hq; exact fun S h1 h2 h3 => h2.2.2.2.2.2.2.2.2.2.2.2.2.2.1 _ _ _ _ _ _ _ _ _ hd hg he (h S h1 h2 h3)
theorem wp_alen0  (hd : decode M.2.1 pc = .ok (.arraylength, 1)) (hq : pc + 1 = pc') (h : WX E d M mc ms P pc' ls (.int 0 :: st) G k n) : WX E d M mc ms P pc ls (.ref E.1 :: st) G k n := by subst hq; exact fun S h1 h2 h3 => h2.2.2.2.2.2.2.2.2.2.2.2.2.2.2.1 _ _ _ _ _ _ hd (h S h1 h2 h3)
theorem wp_sld {j : Nat} {i : Int32} (hd : decode M.2.1 pc = .ok (.iaload, 1)) (hi : i = nI j) (hj : j < E.2.2.2.1) (hN : E.2.2.2.1 < 2 ^ 31) (hq : pc + 1 = pc') (h : WX E d M mc ms P pc' ls (.int (E.2.2.2.2 j) :: st) G k n) : WX E d M mc ms P pc ls (.int i :: .ref E.2.2.1 :: st) G k n := by subst hq; subst hi; exact fun S h1 h2 h3 => h2.2.2.2.2.2.2.2.2.2.2.2.2.2.2.2.1 _ _ _ _ _ _ _ hd (vp_in_nI hj hN) (by rw [nI_clamp (by omega)]; exact h S h1 h2 h3)
theorem wp_slen  (hd : decode M.2.1 pc = .ok (.arraylength, 1)) (hq : pc + 1 = pc') (h : WX E d M mc ms P pc' ls (.int (nI E.2.2.2.1) :: st) G k n) : WX E d M mc ms P pc ls (.ref E.2.2.1 :: st) G k n := by subst hq; exact fun S h1 h2 h3 => h2.2.2.2.2.2.2.2.2.2.2.2.2.2.2.2.2.1 _ _ _ _ _ _ hd (h S h1 h2 h3)
theorem wp_cast {i a ci : Nat} {fs : List Value} {q : vw_C} {nm : String} (hd : decode M.2.1 pc = .ok (.checkcast i, 3)) (hw : tW (.classLink M.1.cls i nm)) (hg : G a = some (hO ci fs)) (hc : vwCl[ci]? = some q) (hn : q.1 = nm) (hq : pc + 3 = pc') (h : WX E d M mc ms P pc' ls (.ref a :: st) G k n) : WX E d M mc ms P pc ls (.ref a :: st) G k n := by subst hq; exact fun S h1 h2 h3 => h2.2.2.2.2.2.2.2.2.2.2.2.2.2.2.2.2.2.1 _ _ _ _ _ _ _ _ _ _ _ _ hd hw hg hc hn (h S h1 h2 h3)
theorem wp_gets {i : Nat} (hd : decode M.2.1 pc = .ok (.getstatic i, 3)) (hw : tW (.fieldLink M.1.cls i "java/util/ArrayList" "DEFAULTCAPACITY_EMPTY_ELEMENTDATA" "[Ljava/lang/Object;")) (hq : pc + 3 = pc') (h : WX E d M mc ms P pc' ls (.ref E.1 :: st) G k n) : WX E d M mc ms P pc ls st G k n := by subst hq; exact fun S h1 h2 h3 => h2.2.2.2.2.2.2.2.2.2.2.2.2.2.2.2.2.2.2.1 _ _ _ _ _ _ _ hd hw (h S h1 h2 h3)
theorem wp_ldcM {i : Nat} (hd : decode M.2.1 pc = .ok (.ldc i, 2)) (hw : tW (.classLink M.1.cls i "[Ljava/lang/Object;")) (hq : pc + 2 = pc') (h : WX E d M mc ms P pc' ls (.ref E.2.1 :: st) G k n) : WX E d M mc ms P pc ls st G k n := by subst hq; exact fun S h1 h2 h3 => h2.2.2.2.2.2.2.2.2.2.2.2.2.2.2.2.2.2.2.2.1 _ _ _ _ _ _ _ hd hw (h S h1 h2 h3)
theorem wp_getC {i a N : Nat} {f : Nat → Option Nat} (hd : decode M.2.1 pc = .ok (.invokevirtual i, 3)) (hw : tW (.methodLink M.1.cls i ⟨"java/lang/Object", "getClass", "()Ljava/lang/Class;"⟩)) (h1' : 1 ≤ d) (hs : cats st ≤ 8) (hg : G a = some (hR N f)) (hq : pc + 3 = pc') (h : WX E d M mc ms P pc' ls (.ref E.2.1 :: st) G k n) : WX E d M mc ms P pc ls (.ref a :: st) G k n := by subst hq; exact fun S h1 h2 h3 => h2.2.2.2.2.2.2.2.2.2.2.2.2.2.2.2.2.2.2.2.2.1 _ _ _ _ _ _ _ _ _ _ hd hw h1' hs hg (h S h1 h2 h3)
theorem wp_copy {i a b N1 N2 L : Nat} {f g : Nat → Option Nat} (hd : decode M.2.1 pc = .ok (.invokestatic i, 3)) (hw : tW (.methodLink M.1.cls i arraycopyName)) (h1' : 1 ≤ d) (hs : cats st ≤ 8) (hab : a ≠ b) (ha : G a = some (hR N1 f)) (hb : G b = some (hR N2 g)) (hL : L < 2 ^ 31) (hL1 : L ≤ N1) (hL2 : L ≤ N2) (he : ∀ j, j < L → ∀ y, f j = some y → ∃ ci fs q, G y = some (hO ci fs) ∧ vwCl[ci]? = some q ∧ tW (.castable q.1 "java/lang/Object")) (hq : pc + 3 = pc') (h : WX E d M mc ms P pc' ls st (hu G b (hR N2 (va_cpy f g 0 0 L))) k n) : WX E d M mc ms P pc ls (.int (nI L) :: .int 0 :: .ref b :: .int 0 :: .ref a :: st) G k n := by subst hq; exact fun S h1 h2 h3 => h2.2.2.2.2.2.2.2.2.2.2.2.2.2.2.2.2.2.2.2.2.2.1 _ _ _ _ _ _ _ _ _ _ _ _ _ _ hd hw h1' hs hab ha hb hL hL1 hL2 he (h S h1 h2 h3)
theorem wp_max {i : Nat} {x y : Int32} (hd : decode M.2.1 pc = .ok (.invokestatic i, 3)) (hw : tW (.methodLink M.1.cls i Lib.Math.max.name)) (h1' : 1 ≤ d) (hs : cats st ≤ 8) (hq : pc + 3 = pc') (h : WX E d M mc ms P pc' ls (.int (if x < y then y else x) :: st) G k n) : WX E d M mc ms P pc ls (.int y :: .int x :: st) G k n := by subst hq; exact fun S h1 h2 h3 => h2.2.2.2.2.2.2.2.2.2.2.2.2.2.2.2.2.2.2.2.2.2.2.1 _ _ _ _ _ _ _ _ _ hd hw h1' hs (h S h1 h2 h3)
theorem wp_min {i : Nat} {x y : Int32} (hd : decode M.2.1 pc = .ok (.invokestatic i, 3)) (hw : tW (.methodLink M.1.cls i Lib.Math.min.name)) (h1' : 1 ≤ d) (hs : cats st ≤ 8) (hq : pc + 3 = pc') (h : WX E d M mc ms P pc' ls (.int (if y < x then y else x) :: st) G k n) : WX E d M mc ms P pc ls (.int y :: .int x :: st) G k n := by subst hq; exact fun S h1 h2 h3 => h2.2.2.2.2.2.2.2.2.2.2.2.2.2.2.2.2.2.2.2.2.2.2.2 _ _ _ _ _ _ _ _ _ hd hw h1' hs (h S h1 h2 h3)
theorem wp_invS {i : Nat} {y : MethodName} {as : List Value} (mc' ms' : Nat) (hd : decode M.2.1 pc = .ok (.invokestatic i, 3)) (hc : CLs M.1.cls i y as.length ∨ CLsN M.1.cls i y as.length) (hs : cats st ≤ 8) (hk : k + mc' ≤ mc) (hn : n + ms' ≤ ms) (h : Sp E d y mc' ms' as G (KT M P (WX E d M mc ms P) pc ls st (k + mc') (n + ms'))) : WX E d M mc ms P pc ls (as.reverse ++ st) G k n := fun S h1 h2 h3 => h3.1 _ _ _ _ _ _ _ _ _ _ _ hd hc hs hk hn (sp_mono d _ _ _ _ _ _ _ (KT_monoS fun _ _ _ _ _ _ w => w S h1 h2 h3) h)
theorem wp_invV {i ci : Nat} {y : MethodName} {b : Nat} {as fs : List Value} (mc' ms' : Nat) (hd : decode M.2.1 pc = .ok (.invokevirtual i, 3)) (hc : CLv M.1.cls i y as.length ci) (hg : G b = some (hO ci fs)) (hs : cats st ≤ 8) (hk : k + mc' ≤ mc) (hn : n + ms' ≤ ms) (h : Sp E d y mc' ms' (.ref b :: as) G (KT M P (WX E d M mc ms P) pc ls st (k + mc') (n + ms'))) : WX E d M mc ms P pc ls (as.reverse ++ .ref b :: st) G k n := fun S h1 h2 h3 => h3.2.1 _ _ _ _ _ _ _ _ _ _ _ _ _ _ hd hc hg hs hk hn (sp_mono d _ _ _ _ _ _ _ (KT_monoS fun _ _ _ _ _ _ w => w S h1 h2 h3) h)
theorem wp_invI {i : Nat} {y : MethodName} {b : Nat} {as : List Value} (mc' ms' : Nat) (hd : decode M.2.1 pc = .ok (.invokespecial i, 3)) (hc : CLi M.1.cls i y as.length ∨ CLiN M.1.cls i y as.length) (hs : cats st ≤ 8) (hk : k + mc' ≤ mc) (hn : n + ms' ≤ ms) (h : Sp E d y mc' ms' (.ref b :: as) G (KT M P (WX E d M mc ms P) pc ls st (k + mc') (n + ms'))) : WX E d M mc ms P pc ls (as.reverse ++ .ref b :: st) G k n := fun S h1 h2 h3 => h3.2.2.1 _ _ _ _ _ _ _ _ _ _ _ _ hd hc hs hk hn (sp_mono d _ _ _ _ _ _ _ (KT_monoS fun _ _ _ _ _ _ w => w S h1 h2 h3) h)
theorem wp_s0 {i : Nat} {y : MethodName}  (mc' ms' : Nat) (hd : decode M.2.1 pc = .ok (.invokestatic i, 3)) (hc : CLs M.1.cls i y 0 ∨ CLsN M.1.cls i y 0) (hs : cats st ≤ 8) (hk : k + mc' ≤ mc) (hn : n + ms' ≤ ms) (h : Sp E d y mc' ms' [] G (KT M P (WX E d M mc ms P) pc ls st (k + mc') (n + ms'))) : WX E d M mc ms P pc ls st G k n := wp_invS (as := []) mc' ms' hd hc hs hk hn h
theorem wp_v0 {i ci : Nat} {y : MethodName} {b : Nat} {fs : List Value}  (mc' ms' : Nat) (hd : decode M.2.1 pc = .ok (.invokevirtual i, 3)) (hc : CLv M.1.cls i y 0 ci) (hg : G b = some (hO ci fs)) (hs : cats st ≤ 8) (hk : k + mc' ≤ mc) (hn : n + ms' ≤ ms) (h : Sp E d y mc' ms' (.ref b :: []) G (KT M P (WX E d M mc ms P) pc ls st (k + mc') (n + ms'))) : WX E d M mc ms P pc ls (.ref b :: st) G k n := wp_invV (as := []) mc' ms' hd hc hg hs hk hn h
theorem wp_i0 {i : Nat} {y : MethodName} {b : Nat}  (mc' ms' : Nat) (hd : decode M.2.1 pc = .ok (.invokespecial i, 3)) (hc : CLi M.1.cls i y 0 ∨ CLiN M.1.cls i y 0) (hs : cats st ≤ 8) (hk : k + mc' ≤ mc) (hn : n + ms' ≤ ms) (h : Sp E d y mc' ms' (.ref b :: []) G (KT M P (WX E d M mc ms P) pc ls st (k + mc') (n + ms'))) : WX E d M mc ms P pc ls (.ref b :: st) G k n := wp_invI (as := []) mc' ms' hd hc hs hk hn h
theorem wp_s1 {i : Nat} {y : MethodName} {v0 : Value} (mc' ms' : Nat) (hd : decode M.2.1 pc = .ok (.invokestatic i, 3)) (hc : CLs M.1.cls i y 1 ∨ CLsN M.1.cls i y 1) (hs : cats st ≤ 8) (hk : k + mc' ≤ mc) (hn : n + ms' ≤ ms) (h : Sp E d y mc' ms' [v0] G (KT M P (WX E d M mc ms P) pc ls st (k + mc') (n + ms'))) : WX E d M mc ms P pc ls (v0 :: st) G k n := wp_invS (as := [v0]) mc' ms' hd hc hs hk hn h
theorem wp_v1 {i ci : Nat} {y : MethodName} {b : Nat} {fs : List Value} {v0 : Value} (mc' ms' : Nat) (hd : decode M.2.1 pc = .ok (.invokevirtual i, 3)) (hc : CLv M.1.cls i y 1 ci) (hg : G b = some (hO ci fs)) (hs : cats st ≤ 8) (hk : k + mc' ≤ mc) (hn : n + ms' ≤ ms) (h : Sp E d y mc' ms' (.ref b :: [v0]) G (KT M P (WX E d M mc ms P) pc ls st (k + mc') (n + ms'))) : WX E d M mc ms P pc ls (v0 :: .ref b :: st) G k n := wp_invV (as := [v0]) mc' ms' hd hc hg hs hk hn h
theorem wp_i1 {i : Nat} {y : MethodName} {b : Nat} {v0 : Value} (mc' ms' : Nat) (hd : decode M.2.1 pc = .ok (.invokespecial i, 3)) (hc : CLi M.1.cls i y 1 ∨ CLiN M.1.cls i y 1) (hs : cats st ≤ 8) (hk : k + mc' ≤ mc) (hn : n + ms' ≤ ms) (h : Sp E d y mc' ms' (.ref b :: [v0]) G (KT M P (WX E d M mc ms P) pc ls st (k + mc') (n + ms'))) : WX E d M mc ms P pc ls (v0 :: .ref b :: st) G k n := wp_invI (as := [v0]) mc' ms' hd hc hs hk hn h
theorem wp_s2 {i : Nat} {y : MethodName} {v0 v1 : Value} (mc' ms' : Nat) (hd : decode M.2.1 pc = .ok (.invokestatic i, 3)) (hc : CLs M.1.cls i y 2 ∨ CLsN M.1.cls i y 2) (hs : cats st ≤ 8) (hk : k + mc' ≤ mc) (hn : n + ms' ≤ ms) (h : Sp E d y mc' ms' [v0, v1] G (KT M P (WX E d M mc ms P) pc ls st (k + mc') (n + ms'))) : WX E d M mc ms P pc ls (v1 :: v0 :: st) G k n := wp_invS (as := [v0, v1]) mc' ms' hd hc hs hk hn h
theorem wp_v2 {i ci : Nat} {y : MethodName} {b : Nat} {fs : List Value} {v0 v1 : Value} (mc' ms' : Nat) (hd : decode M.2.1 pc = .ok (.invokevirtual i, 3)) (hc : CLv M.1.cls i y 2 ci) (hg : G b = some (hO ci fs)) (hs : cats st ≤ 8) (hk : k + mc' ≤ mc) (hn : n + ms' ≤ ms) (h : Sp E d y mc' ms' (.ref b :: [v0, v1]) G (KT M P (WX E d M mc ms P) pc ls st (k + mc') (n + ms'))) : WX E d M mc ms P pc ls (v1 :: v0 :: .ref b :: st) G k n := wp_invV (as := [v0, v1]) mc' ms' hd hc hg hs hk hn h
theorem wp_i2 {i : Nat} {y : MethodName} {b : Nat} {v0 v1 : Value} (mc' ms' : Nat) (hd : decode M.2.1 pc = .ok (.invokespecial i, 3)) (hc : CLi M.1.cls i y 2 ∨ CLiN M.1.cls i y 2) (hs : cats st ≤ 8) (hk : k + mc' ≤ mc) (hn : n + ms' ≤ ms) (h : Sp E d y mc' ms' (.ref b :: [v0, v1]) G (KT M P (WX E d M mc ms P) pc ls st (k + mc') (n + ms'))) : WX E d M mc ms P pc ls (v1 :: v0 :: .ref b :: st) G k n := wp_invI (as := [v0, v1]) mc' ms' hd hc hs hk hn h
theorem wp_s3 {i : Nat} {y : MethodName} {v0 v1 v2 : Value} (mc' ms' : Nat) (hd : decode M.2.1 pc = .ok (.invokestatic i, 3)) (hc : CLs M.1.cls i y 3 ∨ CLsN M.1.cls i y 3) (hs : cats st ≤ 8) (hk : k + mc' ≤ mc) (hn : n + ms' ≤ ms) (h : Sp E d y mc' ms' [v0, v1, v2] G (KT M P (WX E d M mc ms P) pc ls st (k + mc') (n + ms'))) : WX E d M mc ms P pc ls (v2 :: v1 :: v0 :: st) G k n := wp_invS (as := [v0, v1, v2]) mc' ms' hd hc hs hk hn h
theorem wp_v3 {i ci : Nat} {y : MethodName} {b : Nat} {fs : List Value} {v0 v1 v2 : Value} (mc' ms' : Nat) (hd : decode M.2.1 pc = .ok (.invokevirtual i, 3)) (hc : CLv M.1.cls i y 3 ci) (hg : G b = some (hO ci fs)) (hs : cats st ≤ 8) (hk : k + mc' ≤ mc) (hn : n + ms' ≤ ms) (h : Sp E d y mc' ms' (.ref b :: [v0, v1, v2]) G (KT M P (WX E d M mc ms P) pc ls st (k + mc') (n + ms'))) : WX E d M mc ms P pc ls (v2 :: v1 :: v0 :: .ref b :: st) G k n := wp_invV (as := [v0, v1, v2]) mc' ms' hd hc hg hs hk hn h
theorem wp_i3 {i : Nat} {y : MethodName} {b : Nat} {v0 v1 v2 : Value} (mc' ms' : Nat) (hd : decode M.2.1 pc = .ok (.invokespecial i, 3)) (hc : CLi M.1.cls i y 3 ∨ CLiN M.1.cls i y 3) (hs : cats st ≤ 8) (hk : k + mc' ≤ mc) (hn : n + ms' ≤ ms) (h : Sp E d y mc' ms' (.ref b :: [v0, v1, v2]) G (KT M P (WX E d M mc ms P) pc ls st (k + mc') (n + ms'))) : WX E d M mc ms P pc ls (v2 :: v1 :: v0 :: .ref b :: st) G k n := wp_invI (as := [v0, v1, v2]) mc' ms' hd hc hs hk hn h
theorem wp_s4 {i : Nat} {y : MethodName} {v0 v1 v2 v3 : Value} (mc' ms' : Nat) (hd : decode M.2.1 pc = .ok (.invokestatic i, 3)) (hc : CLs M.1.cls i y 4 ∨ CLsN M.1.cls i y 4) (hs : cats st ≤ 8) (hk : k + mc' ≤ mc) (hn : n + ms' ≤ ms) (h : Sp E d y mc' ms' [v0, v1, v2, v3] G (KT M P (WX E d M mc ms P) pc ls st (k + mc') (n + ms'))) : WX E d M mc ms P pc ls (v3 :: v2 :: v1 :: v0 :: st) G k n := wp_invS (as := [v0, v1, v2, v3]) mc' ms' hd hc hs hk hn h
theorem wp_v4 {i ci : Nat} {y : MethodName} {b : Nat} {fs : List Value} {v0 v1 v2 v3 : Value} (mc' ms' : Nat) (hd : decode M.2.1 pc = .ok (.invokevirtual i, 3)) (hc : CLv M.1.cls i y 4 ci) (hg : G b = some (hO ci fs)) (hs : cats st ≤ 8) (hk : k + mc' ≤ mc) (hn : n + ms' ≤ ms) (h : Sp E d y mc' ms' (.ref b :: [v0, v1, v2, v3]) G (KT M P (WX E d M mc ms P) pc ls st (k + mc') (n + ms'))) : WX E d M mc ms P pc ls (v3 :: v2 :: v1 :: v0 :: .ref b :: st) G k n := wp_invV (as := [v0, v1, v2, v3]) mc' ms' hd hc hg hs hk hn h
theorem wp_i4 {i : Nat} {y : MethodName} {b : Nat} {v0 v1 v2 v3 : Value} (mc' ms' : Nat) (hd : decode M.2.1 pc = .ok (.invokespecial i, 3)) (hc : CLi M.1.cls i y 4 ∨ CLiN M.1.cls i y 4) (hs : cats st ≤ 8) (hk : k + mc' ≤ mc) (hn : n + ms' ≤ ms) (h : Sp E d y mc' ms' (.ref b :: [v0, v1, v2, v3]) G (KT M P (WX E d M mc ms P) pc ls st (k + mc') (n + ms'))) : WX E d M mc ms P pc ls (v3 :: v2 :: v1 :: v0 :: .ref b :: st) G k n := wp_invI (as := [v0, v1, v2, v3]) mc' ms' hd hc hs hk hn h
theorem wp_s5 {i : Nat} {y : MethodName} {v0 v1 v2 v3 v4 : Value} (mc' ms' : Nat) (hd : decode M.2.1 pc = .ok (.invokestatic i, 3)) (hc : CLs M.1.cls i y 5 ∨ CLsN M.1.cls i y 5) (hs : cats st ≤ 8) (hk : k + mc' ≤ mc) (hn : n + ms' ≤ ms) (h : Sp E d y mc' ms' [v0, v1, v2, v3, v4] G (KT M P (WX E d M mc ms P) pc ls st (k + mc') (n + ms'))) : WX E d M mc ms P pc ls (v4 :: v3 :: v2 :: v1 :: v0 :: st) G k n := wp_invS (as := [v0, v1, v2, v3, v4]) mc' ms' hd hc hs hk hn h
theorem wp_v5 {i ci : Nat} {y : MethodName} {b : Nat} {fs : List Value} {v0 v1 v2 v3 v4 : Value} (mc' ms' : Nat) (hd : decode M.2.1 pc = .ok (.invokevirtual i, 3)) (hc : CLv M.1.cls i y 5 ci) (hg : G b = some (hO ci fs)) (hs : cats st ≤ 8) (hk : k + mc' ≤ mc) (hn : n + ms' ≤ ms) (h : Sp E d y mc' ms' (.ref b :: [v0, v1, v2, v3, v4]) G (KT M P (WX E d M mc ms P) pc ls st (k + mc') (n + ms'))) : WX E d M mc ms P pc ls (v4 :: v3 :: v2 :: v1 :: v0 :: .ref b :: st) G k n := wp_invV (as := [v0, v1, v2, v3, v4]) mc' ms' hd hc hg hs hk hn h
theorem wp_i5 {i : Nat} {y : MethodName} {b : Nat} {v0 v1 v2 v3 v4 : Value} (mc' ms' : Nat) (hd : decode M.2.1 pc = .ok (.invokespecial i, 3)) (hc : CLi M.1.cls i y 5 ∨ CLiN M.1.cls i y 5) (hs : cats st ≤ 8) (hk : k + mc' ≤ mc) (hn : n + ms' ≤ ms) (h : Sp E d y mc' ms' (.ref b :: [v0, v1, v2, v3, v4]) G (KT M P (WX E d M mc ms P) pc ls st (k + mc') (n + ms'))) : WX E d M mc ms P pc ls (v4 :: v3 :: v2 :: v1 :: v0 :: .ref b :: st) G k n := wp_invI (as := [v0, v1, v2, v3, v4]) mc' ms' hd hc hs hk hn h
theorem wp_s6 {i : Nat} {y : MethodName} {v0 v1 v2 v3 v4 v5 : Value} (mc' ms' : Nat) (hd : decode M.2.1 pc = .ok (.invokestatic i, 3)) (hc : CLs M.1.cls i y 6 ∨ CLsN M.1.cls i y 6) (hs : cats st ≤ 8) (hk : k + mc' ≤ mc) (hn : n + ms' ≤ ms) (h : Sp E d y mc' ms' [v0, v1, v2, v3, v4, v5] G (KT M P (WX E d M mc ms P) pc ls st (k + mc') (n + ms'))) : WX E d M mc ms P pc ls (v5 :: v4 :: v3 :: v2 :: v1 :: v0 :: st) G k n := wp_invS (as := [v0, v1, v2, v3, v4, v5]) mc' ms' hd hc hs hk hn h
theorem wp_v6 {i ci : Nat} {y : MethodName} {b : Nat} {fs : List Value} {v0 v1 v2 v3 v4 v5 : Value} (mc' ms' : Nat) (hd : decode M.2.1 pc = .ok (.invokevirtual i, 3)) (hc : CLv M.1.cls i y 6 ci) (hg : G b = some (hO ci fs)) (hs : cats st ≤ 8) (hk : k + mc' ≤ mc) (hn : n + ms' ≤ ms) (h : Sp E d y mc' ms' (.ref b :: [v0, v1, v2, v3, v4, v5]) G (KT M P (WX E d M mc ms P) pc ls st (k + mc') (n + ms'))) : WX E d M mc ms P pc ls (v5 :: v4 :: v3 :: v2 :: v1 :: v0 :: .ref b :: st) G k n := wp_invV (as := [v0, v1, v2, v3, v4, v5]) mc' ms' hd hc hg hs hk hn h
theorem wp_i6 {i : Nat} {y : MethodName} {b : Nat} {v0 v1 v2 v3 v4 v5 : Value} (mc' ms' : Nat) (hd : decode M.2.1 pc = .ok (.invokespecial i, 3)) (hc : CLi M.1.cls i y 6 ∨ CLiN M.1.cls i y 6) (hs : cats st ≤ 8) (hk : k + mc' ≤ mc) (hn : n + ms' ≤ ms) (h : Sp E d y mc' ms' (.ref b :: [v0, v1, v2, v3, v4, v5]) G (KT M P (WX E d M mc ms P) pc ls st (k + mc') (n + ms'))) : WX E d M mc ms P pc ls (v5 :: v4 :: v3 :: v2 :: v1 :: v0 :: .ref b :: st) G k n := wp_invI (as := [v0, v1, v2, v3, v4, v5]) mc' ms' hd hc hs hk hn h
theorem wp_s7 {i : Nat} {y : MethodName} {v0 v1 v2 v3 v4 v5 v6 : Value} (mc' ms' : Nat) (hd : decode M.2.1 pc = .ok (.invokestatic i, 3)) (hc : CLs M.1.cls i y 7 ∨ CLsN M.1.cls i y 7) (hs : cats st ≤ 8) (hk : k + mc' ≤ mc) (hn : n + ms' ≤ ms) (h : Sp E d y mc' ms' [v0, v1, v2, v3, v4, v5, v6] G (KT M P (WX E d M mc ms P) pc ls st (k + mc') (n + ms'))) : WX E d M mc ms P pc ls (v6 :: v5 :: v4 :: v3 :: v2 :: v1 :: v0 :: st) G k n := wp_invS (as := [v0, v1, v2, v3, v4, v5, v6]) mc' ms' hd hc hs hk hn h
theorem wp_v7 {i ci : Nat} {y : MethodName} {b : Nat} {fs : List Value} {v0 v1 v2 v3 v4 v5 v6 : Value} (mc' ms' : Nat) (hd : decode M.2.1 pc = .ok (.invokevirtual i, 3)) (hc : CLv M.1.cls i y 7 ci) (hg : G b = some (hO ci fs)) (hs : cats st ≤ 8) (hk : k + mc' ≤ mc) (hn : n + ms' ≤ ms) (h : Sp E d y mc' ms' (.ref b :: [v0, v1, v2, v3, v4, v5, v6]) G (KT M P (WX E d M mc ms P) pc ls st (k + mc') (n + ms'))) : WX E d M mc ms P pc ls (v6 :: v5 :: v4 :: v3 :: v2 :: v1 :: v0 :: .ref b :: st) G k n := wp_invV (as := [v0, v1, v2, v3, v4, v5, v6]) mc' ms' hd hc hg hs hk hn h
theorem wp_i7 {i : Nat} {y : MethodName} {b : Nat} {v0 v1 v2 v3 v4 v5 v6 : Value} (mc' ms' : Nat) (hd : decode M.2.1 pc = .ok (.invokespecial i, 3)) (hc : CLi M.1.cls i y 7 ∨ CLiN M.1.cls i y 7) (hs : cats st ≤ 8) (hk : k + mc' ≤ mc) (hn : n + ms' ≤ ms) (h : Sp E d y mc' ms' (.ref b :: [v0, v1, v2, v3, v4, v5, v6]) G (KT M P (WX E d M mc ms P) pc ls st (k + mc') (n + ms'))) : WX E d M mc ms P pc ls (v6 :: v5 :: v4 :: v3 :: v2 :: v1 :: v0 :: .ref b :: st) G k n := wp_invI (as := [v0, v1, v2, v3, v4, v5, v6]) mc' ms' hd hc hs hk hn h
theorem wp_s8 {i : Nat} {y : MethodName} {v0 v1 v2 v3 v4 v5 v6 v7 : Value} (mc' ms' : Nat) (hd : decode M.2.1 pc = .ok (.invokestatic i, 3)) (hc : CLs M.1.cls i y 8 ∨ CLsN M.1.cls i y 8) (hs : cats st ≤ 8) (hk : k + mc' ≤ mc) (hn : n + ms' ≤ ms) (h : Sp E d y mc' ms' [v0, v1, v2, v3, v4, v5, v6, v7] G (KT M P (WX E d M mc ms P) pc ls st (k + mc') (n + ms'))) : WX E d M mc ms P pc ls (v7 :: v6 :: v5 :: v4 :: v3 :: v2 :: v1 :: v0 :: st) G k n := wp_invS (as := [v0, v1, v2, v3, v4, v5, v6, v7]) mc' ms' hd hc hs hk hn h
theorem wp_v8 {i ci : Nat} {y : MethodName} {b : Nat} {fs : List Value} {v0 v1 v2 v3 v4 v5 v6 v7 : Value} (mc' ms' : Nat) (hd : decode M.2.1 pc = .ok (.invokevirtual i, 3)) (hc : CLv M.1.cls i y 8 ci) (hg : G b = some (hO ci fs)) (hs : cats st ≤ 8) (hk : k + mc' ≤ mc) (hn : n + ms' ≤ ms) (h : Sp E d y mc' ms' (.ref b :: [v0, v1, v2, v3, v4, v5, v6, v7]) G (KT M P (WX E d M mc ms P) pc ls st (k + mc') (n + ms'))) : WX E d M mc ms P pc ls (v7 :: v6 :: v5 :: v4 :: v3 :: v2 :: v1 :: v0 :: .ref b :: st) G k n := wp_invV (as := [v0, v1, v2, v3, v4, v5, v6, v7]) mc' ms' hd hc hg hs hk hn h
theorem wp_i8 {i : Nat} {y : MethodName} {b : Nat} {v0 v1 v2 v3 v4 v5 v6 v7 : Value} (mc' ms' : Nat) (hd : decode M.2.1 pc = .ok (.invokespecial i, 3)) (hc : CLi M.1.cls i y 8 ∨ CLiN M.1.cls i y 8) (hs : cats st ≤ 8) (hk : k + mc' ≤ mc) (hn : n + ms' ≤ ms) (h : Sp E d y mc' ms' (.ref b :: [v0, v1, v2, v3, v4, v5, v6, v7]) G (KT M P (WX E d M mc ms P) pc ls st (k + mc') (n + ms'))) : WX E d M mc ms P pc ls (v7 :: v6 :: v5 :: v4 :: v3 :: v2 :: v1 :: v0 :: .ref b :: st) G k n := wp_invI (as := [v0, v1, v2, v3, v4, v5, v6, v7]) mc' ms' hd hc hs hk hn h
theorem wp_s9 {i : Nat} {y : MethodName} {v0 v1 v2 v3 v4 v5 v6 v7 v8 : Value} (mc' ms' : Nat) (hd : decode M.2.1 pc = .ok (.invokestatic i, 3)) (hc : CLs M.1.cls i y 9 ∨ CLsN M.1.cls i y 9) (hs : cats st ≤ 8) (hk : k + mc' ≤ mc) (hn : n + ms' ≤ ms) (h : Sp E d y mc' ms' [v0, v1, v2, v3, v4, v5, v6, v7, v8] G (KT M P (WX E d M mc ms P) pc ls st (k + mc') (n + ms'))) : WX E d M mc ms P pc ls (v8 :: v7 :: v6 :: v5 :: v4 :: v3 :: v2 :: v1 :: v0 :: st) G k n := wp_invS (as := [v0, v1, v2, v3, v4, v5, v6, v7, v8]) mc' ms' hd hc hs hk hn h
theorem wp_obj {i a : Nat} (hd : decode M.2.1 pc = .ok (.invokespecial i, 3)) (hw : tW (.methodLink M.1.cls i Lib.objectInit)) (hs : cats st ≤ 8) (hq : pc + 3 = pc') (h : WX E d M mc ms P pc' ls st G k n) : WX E d M mc ms P pc ls (.ref a :: st) G k n := by subst hq; exact fun S h1 h2 h3 => h3.2.2.2.1 _ _ _ _ _ _ _ _ hd hw hs (h S h1 h2 h3)
theorem wp_iret {v : Int32} {ty : FieldType} (hd : decode M.2.1 pc = .ok (.ireturn, 1)) (hr : M.2.2.1 = some ty) (hn : narrow ty (.int v) = .int v) (h : P (.inl (some (.int v))) G) : WX E d M mc ms P pc ls [.int v] G k n := fun S h1 h2 h3 => h3.2.2.2.2.1 _ _ _ _ _ _ _ hd hr hn h
theorem wp_aret {v : Value} {rt : FieldType} (hd : decode M.2.1 pc = .ok (.areturn, 1)) (hr : M.2.2.1 = some rt) (ht : (∃ n, rt = .object n) ∨ ∃ t, rt = .array t) (hv : v = .null ∨ ∃ a, v = .ref a) (h : P (.inl (some v)) G) : WX E d M mc ms P pc ls [v] G k n := fun S h1 h2 h3 => h3.2.2.2.2.2.1 _ _ _ _ _ _ _ hd hr ht hv h
theorem wp_vret (hd : decode M.2.1 pc = .ok (.return_, 1)) (hr : M.2.2.1 = none) (h : P (.inl none) G) : WX E d M mc ms P pc ls [] G k n := fun S h1 h2 h3 => h3.2.2.2.2.2.2.1 _ _ _ _ _ hd hr h
theorem wp_thr {ik is ic : Nat} {X text : String} (d0 : decode M.2.1 pc = .ok (.new ik, 3)) (d3 : decode M.2.1 (pc + 3) = .ok (.dup, 1)) (d4 : (decode M.2.1 (pc + 4) = .ok (.ldc is, 2) ∧ decode M.2.1 (pc + 6) = .ok (.invokespecial ic, 3) ∧ decode M.2.1 (pc + 9) = .ok (.athrow, 1)) ∨ (decode M.2.1 (pc + 4) = .ok (.ldc_w is, 3) ∧ decode M.2.1 (pc + 7) = .ok (.invokespecial ic, 3) ∧ decode M.2.1 (pc + 10) = .ok (.athrow, 1))) (ht : TH M.1.cls ik is ic X text) (hh : M.2.2.2 = []) (h5 : 5 ≤ d) (hs : cats st ≤ 8) (hk : k + 1 ≤ mc) (hn : n + 6 ≤ ms) (h : P (.inr X) G) : WX E d M mc ms P pc ls st G k n := fun S h1 h2 h3 => h3.2.2.2.2.2.2.2 _ _ _ _ _ _ _ _ _ _ _ d0 d3 d4 ht hh h5 hs hk hn h
end WPS
end
