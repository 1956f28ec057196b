/-! words for all walks -/
def b2i (b : Bool) : Int32 := if b then 1 else 0
theorem nar_b2i {b : Bool} : narrow .boolean (.int (b2i b)) = .int (b2i b) := by cases b <;> rfl
theorem fit_b2i {b : Bool} : fits .boolean (.int (b2i b)) = true := by cases b <;> rfl
theorem vnar_b2i {b : Bool} : vp_nar .boolean (b2i b) = b2i b := by cases b <;> rfl
theorem b2i_t : b2i true = 1 := rfl
theorem b2i_f : b2i false = 0 := rfl
theorem b2i_0 {b : Bool} : b2i b = 0 ↔ b = false := by cases b <;> simp [b2i]
theorem b2i_1 {b : Bool} : b2i b = 1 ↔ b = true := by cases b <;> simp [b2i]
theorem b2i_inj {a b : Bool} : b2i a = b2i b ↔ a = b := by cases a <;> cases b <;> simp [b2i]
theorem v1_all {as : List Value} (h : as.all (fun v => v.category == 1) = true) : ∀ v ∈ as, v1 v := fun v hv => by
  have := List.all_eq_true.mp h v hv
  exact eq_of_beq this
def cmpB (o : Jvm.ClassFile.Cond) (x y : Int32) : Bool := match o with
  | .eq => decide (x = y)
  | .ne => !decide (x = y)
  | .lt => decide (x < y)
  | .ge => decide (y ≤ x)
  | .gt => decide (y < x)
  | .le => decide (x ≤ y)
theorem cmpB_iff (o : Jvm.ClassFile.Cond) (x y : Int32) : cmpB o x y = true ↔ cmpP o x y := by cases o <;> simp [cmpB, cmpP]
theorem cmpT {o : Jvm.ClassFile.Cond} {x y : Int32} (h : cmpB o x y = true) : cmpP o x y := (cmpB_iff o x y).mp h
theorem cmpF {o : Jvm.ClassFile.Cond} {x y : Int32} (h : cmpB o x y = false) : ¬ cmpP o x y := fun z => by rw [(cmpB_iff o x y).mpr z] at h; cases h
section BASE
variable {E : XE} {d : Nat} {M : ME} {mc ms : Nat} {P : Ps} {pc pc' : Nat} {ls : List (Option Value)} {st : List Value} {G : HP} {k n : Nat}
theorem wp_ifT {c : Jvm.ClassFile.Cond} {off : Int} (tgt : Nat) {x : Int32} (hd : decode M.2.1 pc = .ok (.ifCond c off, 3)) (ht : (pc : Int) + off = (tgt : Int)) (hc : cmpP c x 0) (h : WX E d M mc ms P tgt ls st G k n) : WX E d M mc ms P pc ls (.int x :: st) G k n := wp_if tgt hd ht rfl (fun _ => h) (fun z => absurd hc z)
theorem wp_ifF {c : Jvm.ClassFile.Cond} {off : Int} (tgt : Nat) {x : Int32} (hd : decode M.2.1 pc = .ok (.ifCond c off, 3)) (ht : (pc : Int) + off = (tgt : Int)) (hq : pc + 3 = pc') (hc : ¬ cmpP c x 0) (h : WX E d M mc ms P pc' ls st G k n) : WX E d M mc ms P pc ls (.int x :: st) G k n := by
  exact wp_if tgt hd ht hq (fun z => absurd z hc) (fun _ => h)
theorem wp_icmpT {c : Jvm.ClassFile.Cond} {off : Int} (tgt : Nat) {x y : Int32} (hd : decode M.2.1 pc = .ok (.if_icmp c off, 3)) (ht : (pc : Int) + off = (tgt : Int)) (hc : cmpP c x y) (h : WX E d M mc ms P tgt ls st G k n) : WX E d M mc ms P pc ls (.int y :: .int x :: st) G k n := wp_icmp tgt hd ht rfl (fun _ => h) (fun z => absurd hc z)
theorem wp_icmpF {c : Jvm.ClassFile.Cond} {off : Int} (tgt : Nat) {x y : Int32} (hd : decode M.2.1 pc = .ok (.if_icmp c off, 3)) (ht : (pc : Int) + off = (tgt : Int)) (hq : pc + 3 = pc') (hc : ¬ cmpP c x y) (h : WX E d M mc ms P pc' ls st G k n) : WX E d M mc ms P pc ls (.int y :: .int x :: st) G k n := by
  exact wp_icmp tgt hd ht hq (fun z => absurd z hc) (fun _ => h)
theorem wp_ifeqB {off : Int} (tgt : Nat) {b : Bool} (hd : decode M.2.1 pc = .ok (.ifCond .eq off, 3)) (ht : (pc : Int) + off = (tgt : Int)) (hq : pc + 3 = pc') (h0 : b = false → WX E d M mc ms P tgt ls st G k n) (h1 : b = true → WX E d M mc ms P pc' ls st G k n) : WX E d M mc ms P pc ls (.int (b2i b) :: st) G k n :=
  wp_if tgt hd ht hq (fun z => h0 (b2i_0.mp z)) (fun z => h1 (by cases b; exact absurd rfl z; rfl))
theorem wp_ifneB {off : Int} (tgt : Nat) {b : Bool} (hd : decode M.2.1 pc = .ok (.ifCond .ne off, 3)) (ht : (pc : Int) + off = (tgt : Int)) (hq : pc + 3 = pc') (h1 : b = true → WX E d M mc ms P tgt ls st G k n) (h0 : b = false → WX E d M mc ms P pc' ls st G k n) : WX E d M mc ms P pc ls (.int (b2i b) :: st) G k n :=
  wp_if tgt hd ht hq (fun z => h1 (by cases b; exact absurd rfl z; rfl)) (fun z => h0 (by cases b; rfl; exact absurd (fun w => nomatch w) z))
theorem lg0 {x y : Int64} : lg_cmp x y = 0 ↔ x = y := lg_cmp_eq x y
theorem wp_ifeqL {off : Int} (tgt : Nat) {x y : Int64} (hd : decode M.2.1 pc = .ok (.ifCond .eq off, 3)) (ht : (pc : Int) + off = (tgt : Int)) (hq : pc + 3 = pc') (h1 : x = y → WX E d M mc ms P tgt ls st G k n) (h0 : ¬ x = y → WX E d M mc ms P pc' ls st G k n) : WX E d M mc ms P pc ls (.int (lg_cmp x y) :: st) G k n :=
  wp_if tgt hd ht hq (fun z => h1 (lg0.mp z)) (fun z => h0 (fun w => z (lg0.mpr w)))
theorem wp_if_eq {off : Int} (tgt : Nat) {x : Int32} (hd : decode M.2.1 pc = .ok (.ifCond .eq off, 3)) (ht : (pc : Int) + off = (tgt : Int)) (hq : pc + 3 = pc') (ha : x = 0 → WX E d M mc ms P tgt ls st G k n) (hb : ¬ x = 0 → WX E d M mc ms P pc' ls st G k n) : WX E d M mc ms P pc ls (.int x :: st) G k n := wp_if tgt hd ht hq (fun z => ha z) (fun z => hb z)
theorem wp_icmp_eq {off : Int} (tgt : Nat) {x y : Int32} (hd : decode M.2.1 pc = .ok (.if_icmp .eq off, 3)) (ht : (pc : Int) + off = (tgt : Int)) (hq : pc + 3 = pc') (ha : x = y → WX E d M mc ms P tgt ls st G k n) (hb : ¬ x = y → WX E d M mc ms P pc' ls st G k n) : WX E d M mc ms P pc ls (.int y :: .int x :: st) G k n := wp_icmp tgt hd ht hq (fun z => ha z) (fun z => hb z)
theorem wp_if_ne {off : Int} (tgt : Nat) {x : Int32} (hd : decode M.2.1 pc = .ok (.ifCond .ne off, 3)) (ht : (pc : Int) + off = (tgt : Int)) (hq : pc + 3 = pc') (ha : ¬ x = 0 → WX E d M mc ms P tgt ls st G k n) (hb : x = 0 → WX E d M mc ms P pc' ls st G k n) : WX E d M mc ms P pc ls (.int x :: st) G k n := wp_if tgt hd ht hq (fun z => ha z) (fun z => hb (Classical.not_not.mp z))
theorem wp_icmp_ne {off : Int} (tgt : Nat) {x y : Int32} (hd : decode M.2.1 pc = .ok (.if_icmp .ne off, 3)) (ht : (pc : Int) + off = (tgt : Int)) (hq : pc + 3 = pc') (ha : ¬ x = y → WX E d M mc ms P tgt ls st G k n) (hb : x = y → WX E d M mc ms P pc' ls st G k n) : WX E d M mc ms P pc ls (.int y :: .int x :: st) G k n := wp_icmp tgt hd ht hq (fun z => ha z) (fun z => hb (Classical.not_not.mp z))
theorem wp_if_lt {off : Int} (tgt : Nat) {x : Int32} (hd : decode M.2.1 pc = .ok (.ifCond .lt off, 3)) (ht : (pc : Int) + off = (tgt : Int)) (hq : pc + 3 = pc') (ha : x < 0 → WX E d M mc ms P tgt ls st G k n) (hb : ¬ x < 0 → WX E d M mc ms P pc' ls st G k n) : WX E d M mc ms P pc ls (.int x :: st) G k n := wp_if tgt hd ht hq (fun z => ha z) (fun z => hb z)
theorem wp_icmp_lt {off : Int} (tgt : Nat) {x y : Int32} (hd : decode M.2.1 pc = .ok (.if_icmp .lt off, 3)) (ht : (pc : Int) + off = (tgt : Int)) (hq : pc + 3 = pc') (ha : x < y → WX E d M mc ms P tgt ls st G k n) (hb : ¬ x < y → WX E d M mc ms P pc' ls st G k n) : WX E d M mc ms P pc ls (.int y :: .int x :: st) G k n := wp_icmp tgt hd ht hq (fun z => ha z) (fun z => hb z)
theorem wp_if_ge {off : Int} (tgt : Nat) {x : Int32} (hd : decode M.2.1 pc = .ok (.ifCond .ge off, 3)) (ht : (pc : Int) + off = (tgt : Int)) (hq : pc + 3 = pc') (ha : 0 ≤ x → WX E d M mc ms P tgt ls st G k n) (hb : ¬ 0 ≤ x → WX E d M mc ms P pc' ls st G k n) : WX E d M mc ms P pc ls (.int x :: st) G k n := wp_if tgt hd ht hq (fun z => ha z) (fun z => hb z)
theorem wp_icmp_ge {off : Int} (tgt : Nat) {x y : Int32} (hd : decode M.2.1 pc = .ok (.if_icmp .ge off, 3)) (ht : (pc : Int) + off = (tgt : Int)) (hq : pc + 3 = pc') (ha : y ≤ x → WX E d M mc ms P tgt ls st G k n) (hb : ¬ y ≤ x → WX E d M mc ms P pc' ls st G k n) : WX E d M mc ms P pc ls (.int y :: .int x :: st) G k n := wp_icmp tgt hd ht hq (fun z => ha z) (fun z => hb z)
theorem wp_if_gt {off : Int} (tgt : Nat) {x : Int32} (hd : decode M.2.1 pc = .ok (.ifCond .gt off, 3)) (ht : (pc : Int) + off = (tgt : Int)) (hq : pc + 3 = pc') (ha : 0 < x → WX E d M mc ms P tgt ls st G k n) (hb : ¬ 0 < x → WX E d M mc ms P pc' ls st G k n) : WX E d M mc ms P pc ls (.int x :: st) G k n := wp_if tgt hd ht hq (fun z => ha z) (fun z => hb z)
theorem wp_icmp_gt {off : Int} (tgt : Nat) {x y : Int32} (hd : decode M.2.1 pc = .ok (.if_icmp .gt off, 3)) (ht : (pc : Int) + off = (tgt : Int)) (hq : pc + 3 = pc') (ha : y < x → WX E d M mc ms P tgt ls st G k n) (hb : ¬ y < x → WX E d M mc ms P pc' ls st G k n) : WX E d M mc ms P pc ls (.int y :: .int x :: st) G k n := wp_icmp tgt hd ht hq (fun z => ha z) (fun z => hb z)
theorem wp_if_le {off : Int} (tgt : Nat) {x : Int32} (hd : decode M.2.1 pc = .ok (.ifCond .le off, 3)) (ht : (pc : Int) + off = (tgt : Int)) (hq : pc + 3 = pc') (ha : x ≤ 0 → WX E d M mc ms P tgt ls st G k n) (hb : ¬ x ≤ 0 → WX E d M mc ms P pc' ls st G k n) : WX E d M mc ms P pc ls (.int x :: st) G k n := wp_if tgt hd ht hq (fun z => ha z) (fun z => hb z)
theorem wp_icmp_le {off : Int} (tgt : Nat) {x y : Int32} (hd : decode M.2.1 pc = .ok (.if_icmp .le off, 3)) (ht : (pc : Int) + off = (tgt : Int)) (hq : pc + 3 = pc') (ha : x ≤ y → WX E d M mc ms P tgt ls st G k n) (hb : ¬ x ≤ y → WX E d M mc ms P pc' ls st G k n) : WX E d M mc ms P pc ls (.int y :: .int x :: st) G k n := wp_icmp tgt hd ht hq (fun z => ha z) (fun z => hb z)
end BASE
