/-! THE CORE: a small pure machine over a heap that is a function; its rules (XR), its least predicate (WP), its methods by depth (Sp) -/
/-- what a cell holds: an object (its class's place in vwCl, its fields), an array of int, boolean, long, Object -/
abbrev HE : Type := (Nat × List Value) ⊕ (Nat × (Nat → Int32)) ⊕ (Nat × (Nat → Int32)) ⊕ (Nat × (Nat → Int64)) ⊕ (Nat × (Nat → Option Nat))
def hO (c : Nat) (fs : List Value) : HE := .inl (c, fs)
def hI (n : Nat) (f : Nat → Int32) : HE := .inr (.inl (n, f))
def hZ (n : Nat) (f : Nat → Int32) : HE := .inr (.inr (.inl (n, f)))
def hJ (n : Nat) (f : Nat → Int64) : HE := .inr (.inr (.inr (.inl (n, f))))
def hR (n : Nat) (f : Nat → Option Nat) : HE := .inr (.inr (.inr (.inr (n, f))))
abbrev HP : Type := Nat → Option HE
def hu (G : HP) (a : Nat) (e : HE) : HP := fun j => if j = a then some e else G j
theorem hu_s {G : HP} {a : Nat} {e : HE} : hu G a e a = some e := if_pos rfl
theorem hu_n {G : HP} {a b : Nat} {e : HE} (h : b ≠ a) : hu G a e b = G b := if_neg h
/-- the classes of the four kinds of array: int, boolean, long, Object -/
abbrev C4 : Type := ClassId × ClassId × ClassId × ClassId
def eW (c : C4) : HE → va_E
  | .inl o => .inr o
  | .inr (.inl (n, f)) => .inl (c.1, n, .inl f)
  | .inr (.inr (.inl (n, f))) => .inl (c.2.1, n, .inl f)
  | .inr (.inr (.inr (.inl (n, f)))) => .inl (c.2.2.1, n, .inr (.inl f))
  | .inr (.inr (.inr (.inr (n, f)))) => .inl (c.2.2.2, n, .inr (.inr (.inr (.inr f))))
def ty4 (c : C4) : List (ClassId × FieldType) := [(c.1, .int), (c.2.1, .boolean), (c.2.2.1, .int), (c.2.2.2, .object "java/lang/Object")]
/-- an outcome: a value (none: void), or the class that was thrown -/
abbrev Oc : Type := Option Value ⊕ String
abbrev Ps : Type := Oc → HP → Prop
abbrev XS : Type := Nat → List (Option Value) → List Value → HP → Nat → Nat → Prop
abbrev SPt : Type := MethodName → Nat → Nat → List Value → HP → Ps → Prop
/-- constants of a run: the empty list's array, the Class object of Object[], the script (address, length, ints) -/
abbrev XE : Type := Nat × Nat × Nat × Nat × (Nat → Int32)
/-- a method: its name, bytes, return type, handlers -/
abbrev ME : Type := MethodName × ByteArray × Option FieldType × List (Nat × Nat × Nat × Nat)
/-- the words that stay with the machine -/
def kW : Jvm.Cond → Bool
  | .castable _ _ => true
  | .declares _ => true
  | .methodLinkNest _ _ _ _ => true
  | w => goodWord w
def tW (w : Jvm.Cond) : Prop := w ∈ lw_tbl ∧ kW w = true
def cmpP (o : Jvm.ClassFile.Cond) (x y : Int32) : Prop := match o with
  | .eq => x = y
  | .ne => ¬ x = y
  | .lt => x < y
  | .ge => y ≤ x
  | .gt => y < x
  | .le => x ≤ y
def lget (ls : List (Option Value)) (i : Nat) : Option Value := match ls[i]? with
  | some (some v) => some v
  | _ => none
/-- instructions that touch the operand stack alone: their length and what the stack is behind them -/
def pst (i : Instr) (st : List Value) : Option (Nat × List Value) := match i, st with
  | .iconst n, st => some (1, .int (Int32.ofInt n) :: st)
  | .lconst n, st => some (1, .long (Int64.ofNat (n : Nat)) :: st)
  | .bipush n, st => some (2, .int (Int8.ofInt n).toInt32 :: st)
  | .sipush n, st => some (3, .int (Int16.ofInt n).toInt32 :: st)
  | .aconst_null, st => some (1, .null :: st)
  | .iadd, .int y :: .int x :: st => some (1, .int (x + y) :: st)
  | .isub, .int y :: .int x :: st => some (1, .int (x - y) :: st)
  | .imul, .int y :: .int x :: st => some (1, .int (x * y) :: st)
  | .ishr, .int y :: .int x :: st => some (1, .int (x >>> (y &&& 31)) :: st)
  | .iand, .int y :: .int x :: st => some (1, .int (x &&& y) :: st)
  | .i2l, .int x :: st => some (1, .long x.toInt64 :: st)
  | .lcmp, .long y :: .long x :: st => some (1, .int (lg_cmp x y) :: st)
  | _, _ => none

def lst (i : Instr) (v : Value) : Option (Nat × Nat) := match i, v with
  | .iload_n k, .int _ => some (1, (k : Nat))
  | .iload k, .int _ => some (2, k)
  | .aload_n k, .ref _ => some (1, (k : Nat))
  | .aload k, .ref _ => some (2, k)
  | .aload_n k, .null => some (1, (k : Nat))
  | .aload k, .null => some (2, k)
  | _, _ => none
def sst (i : Instr) (v : Value) : Option (Nat × Nat) := match i, v with
  | .istore_n k, .int _ => some (1, (k : Nat))
  | .istore k, .int _ => some (2, k)
  | .astore_n k, .ref _ => some (1, (k : Nat))
  | .astore k, .ref _ => some (2, k)
  | .astore_n k, .null => some (1, (k : Nat))
  | .astore k, .null => some (2, k)
  | _, _ => none
def v1 (v : Value) : Prop := v.category = 1
/-- a class of vwCl with what the tables say of it -/
def CLok (ci : Nat) (q : vw_C) (ty : Nat → FieldType) : Prop := vwCl[ci]? = some q ∧ (∀ w ∈ u_ws q.1 q.2.1 q.2.2, tW w) ∧ (∀ k, k < q.2.2 → parseFieldDescriptor (q.2.1 k).2.2.1 = some (ty k)) ∧ (∀ a, a < q.2.2 → ∀ b, b < q.2.2 → a ≠ b → (q.2.1 a).2.1 ≠ (q.2.1 b).2.1) ∧ tW (.instantiable q.1 q.2.2) ∧ tW (.initialized q.1)
/-- entry idx of class own's file is field kf of class ci, of type t; 'w': it may be written by a method of that name -/
def FL (own : String) (idx ci kf : Nat) (t : FieldType) (fin : Bool) (decl : String) : Prop := ∃ (q : vw_C) (ty : Nat → FieldType) (ref : String), CLok ci q ty ∧ kf < q.2.2 ∧ tW (.fieldLink own idx ref (q.2.1 kf).2.1 (q.2.1 kf).2.2.1) ∧ (ref = (q.2.1 kf).1 ∨ tW (.sameField ref (q.2.1 kf).1 (q.2.1 kf).2.1 (q.2.1 kf).2.2.1)) ∧ ty kf = t ∧ (q.2.1 kf).2.2.2 = fin ∧ (q.2.1 kf).1 = decl
/-- entry idx is class ci, fresh objects of it hold fs -/
def NWc (own : String) (idx ci : Nat) (fs : List Value) : Prop := ∃ (q : vw_C) (ty : Nat → FieldType), CLok ci q ty ∧ tW (.classLink own idx q.1) ∧ (∀ j, j < q.2.2 → defaultValue (ty j) = vp_V fs j) ∧ fs.length = q.2.2
/-- pairs of exceptions' classes of which the first is no second -/
def nc_list : List (String × String) := [("java/lang/IllegalArgumentException", "java/lang/IllegalStateException"), ("java/lang/IllegalArgumentException", "java/lang/IndexOutOfBoundsException"), ("java/lang/IllegalStateException", "java/lang/IllegalArgumentException"), ("java/lang/IllegalStateException", "java/lang/IndexOutOfBoundsException"), ("java/lang/IndexOutOfBoundsException", "java/lang/IllegalArgumentException"), ("java/lang/IndexOutOfBoundsException", "java/lang/IllegalStateException")]
def HF (own : String) (pc : Nat) (X : String) : List (Nat × Nat × Nat × Nat) → Option Nat → Prop
  | [], r => r = none
  | q :: hs, r => ((decide (q.1 ≤ pc) && decide (pc < q.2.1)) = false ∧ HF own pc X hs r) ∨ ((decide (q.1 ≤ pc) && decide (pc < q.2.1)) = true ∧ q.2.2.2 ≠ 0 ∧ ∃ nm : String, tW (.classLink own q.2.2.2 nm) ∧ ((tW (.castable X nm) ∧ r = some q.2.2.1) ∨ ((X, nm) ∈ nc_list ∧ HF own pc X hs r)))
def codeW (y : MethodName) (cc : ByteArray) (maxL : Nat) (ret : Option FieldType) (hh : List (Nat × Nat × Nat × Nat)) : Jvm.Cond := match hh with
  | [] => .code y cc maxL ret
  | h :: hs => .codeWith y cc maxL ret (h :: hs)
def Body (y : MethodName) (cc : ByteArray) (maxL : Nat) (ret : Option FieldType) (hh : List (Nat × Nat × Nat × Nat)) : Prop := tW (codeW y cc maxL ret hh) ∧ plainName y.cls = true ∧ maxL ≤ 12 ∧ (hh = [] ∨ y.cls = "KerbHoursLaw") ∧ (y.name = "<init>" → ret = none)
def nmh (y : MethodName) (n : Nat) : Prop := (y.cls ≠ "java/lang/invoke/MethodHandle" ∧ y.cls ≠ "java/lang/invoke/VarHandle") ∧ (parseMethodDescriptor y.desc).map (fun d => d.parameters.length) = some n
/-- entry idx of own's file is method y, of n arguments: static; an object's; a constructor; 'N': by nest -/
def CLs (own : String) (idx : Nat) (y : MethodName) (n : Nat) : Prop := nmh y n ∧ tW (.methodLink own idx y) ∧ tW (.static y) ∧ tW (.initialized y.cls)
def CLsN (own : String) (idx : Nat) (y : MethodName) (n : Nat) : Prop := nmh y n ∧ (∃ host : String, tW (.methodLinkNest own idx y host)) ∧ tW (.static y) ∧ tW (.initialized y.cls) ∧ y.cls ≠ "KerbHoursLaw"
def CLv (own : String) (idx : Nat) (y : MethodName) (n : Nat) (ci : Nat) : Prop := nmh y n ∧ tW (.methodLink own idx y) ∧ tW (.instanceMethod y) ∧ tW (.initialized y.cls) ∧ y.cls ≠ "KerbHoursLaw" ∧ ∃ q : vw_C, vwCl[ci]? = some q ∧ tW (.selects q.1 y y)
def CLi (own : String) (idx : Nat) (y : MethodName) (n : Nat) : Prop := nmh y n ∧ tW (.methodLink own idx y) ∧ tW (.instanceMethod y) ∧ tW (.initialized y.cls) ∧ y.cls ≠ "KerbHoursLaw" ∧ y.name = "<init>"
def CLiN (own : String) (idx : Nat) (y : MethodName) (n : Nat) : Prop := nmh y n ∧ (∃ host : String, tW (.methodLinkNest own idx y host)) ∧ tW (.instanceMethod y) ∧ tW (.initialized y.cls) ∧ y.cls ≠ "KerbHoursLaw" ∧ y.name = "<init>"
/-- the texts that are thrown: class, entry, text -/
def str_list : List (String × Nat × String) := [("KerbHours", 150, "no such home"), ("KerbHours", 189, "it does not stand"), ("KerbHours", 268, "no such fact of a fine"), ("KerbHours", 275, "it does not stand, or owes too little"), ("KerbHours", 280, "no such fact of a street"), ("KerbHours", 285, "out of range"), ("KerbHours", 287, "not as things are now"), ("KerbHours", 289, "no such metre"), ("KerbHours", 291, "no such street"), ("KerbHours", 293, "no such car"), ("KerbHours", 295, "no such fine")]
/-- 'throw new X(text)' in class own -/
def TH (own : String) (ik is ic : Nat) (X text : String) : Prop := Bundle.fit X = true ∧ tW (.classLink own ik X) ∧ tW (.initialized X) ∧ (∀ w ∈ vx_atS own ic X ["java/lang/RuntimeException", "java/lang/Exception"], tW w) ∧ (∀ w ∈ Jvm.Cond.classLink own ik X :: Jvm.Cond.initialized X :: vx_atS own ic X ["java/lang/RuntimeException", "java/lang/Exception"], vx_ot w = true) ∧ (own, is, text) ∈ str_list
def cats (st : List Value) : Nat := (st.map fun v => v.category).sum
-- the rules, each for a set S of states
def r_pure (M : ME) (S : XS) : Prop := ∀ pc ls st G k n i len st', decode M.2.1 pc = .ok (i, len) → pst i st = some (len, st') → S (pc + len) ls st' G k n → S pc ls st G k n
def r_load (M : ME) (S : XS) : Prop := ∀ pc ls st G k n i len j v, decode M.2.1 pc = .ok (i, len) → lget ls j = some v → lst i v = some (len, j) → S (pc + len) ls (v :: st) G k n → S pc ls st G k n
def r_store (M : ME) (S : XS) : Prop := ∀ pc ls st G k n i len j v, decode M.2.1 pc = .ok (i, len) → sst i v = some (len, j) → j < ls.length → S (pc + len) (ls.set j (some v)) st G k n → S pc ls (v :: st) G k n
def r_iinc (M : ME) (S : XS) : Prop := ∀ pc ls st G k n j c x, decode M.2.1 pc = .ok (.iinc j c, 3) → lget ls j = some (.int x) → S (pc + 3) (ls.set j (some (.int (x + Int32.ofInt c)))) st G k n → S pc ls st G k n
def r_dup (M : ME) (S : XS) : Prop := ∀ pc ls st G k n v, decode M.2.1 pc = .ok (.dup, 1) → v1 v → S (pc + 1) ls (v :: v :: st) G k n → S pc ls (v :: st) G k n
def r_dupx (M : ME) (S : XS) : Prop := ∀ pc ls st G k n v w, decode M.2.1 pc = .ok (.dup_x1, 1) → v1 v → v1 w → S (pc + 1) ls (v :: w :: v :: st) G k n → S pc ls (v :: w :: st) G k n
def r_dup2 (M : ME) (S : XS) : Prop := ∀ pc ls st G k n v w, decode M.2.1 pc = .ok (.dup2, 1) → v1 v → v1 w → S (pc + 1) ls (v :: w :: v :: w :: st) G k n → S pc ls (v :: w :: st) G k n
def r_pop (M : ME) (S : XS) : Prop := ∀ pc ls st G k n v, decode M.2.1 pc = .ok (.pop, 1) → v1 v → S (pc + 1) ls st G k n → S pc ls (v :: st) G k n
def r_div (M : ME) (S : XS) : Prop := ∀ pc ls st G k n x y, decode M.2.1 pc = .ok (.idiv, 1) → ¬ y = 0 → S (pc + 1) ls (.int (x / y) :: st) G k n → S pc ls (.int y :: .int x :: st) G k n
def r_rem (M : ME) (S : XS) : Prop := ∀ pc ls st G k n x y, decode M.2.1 pc = .ok (.irem, 1) → ¬ y = 0 → S (pc + 1) ls (.int (x - x / y * y) :: st) G k n → S pc ls (.int y :: .int x :: st) G k n
def r_if (M : ME) (S : XS) : Prop := ∀ pc ls st G k n c off (tgt : Nat) x, decode M.2.1 pc = .ok (.ifCond c off, 3) → (pc : Int) + off = (tgt : Int) → (cmpP c x 0 → S tgt ls st G k n) → (¬ cmpP c x 0 → S (pc + 3) ls st G k n) → S pc ls (.int x :: st) G k n
def r_icmp (M : ME) (S : XS) : Prop := ∀ pc ls st G k n c off (tgt : Nat) x y, decode M.2.1 pc = .ok (.if_icmp c off, 3) → (pc : Int) + off = (tgt : Int) → (cmpP c x y → S tgt ls st G k n) → (¬ cmpP c x y → S (pc + 3) ls st G k n) → S pc ls (.int y :: .int x :: st) G k n
def r_goto (M : ME) (S : XS) : Prop := ∀ pc ls st G k n off (tgt : Nat), decode M.2.1 pc = .ok (.goto off, 3) → (pc : Int) + off = (tgt : Int) → S tgt ls st G k n → S pc ls st G k n
def r_nul (M : ME) (S : XS) : Prop := ∀ pc ls st G k n off (tgt : Nat), decode M.2.1 pc = .ok (.ifnull off, 3) → (pc : Int) + off = (tgt : Int) → S tgt ls st G k n → S pc ls (.null :: st) G k n
def r_nulR (M : ME) (S : XS) : Prop := ∀ pc ls st G k n off a, decode M.2.1 pc = .ok (.ifnull off, 3) → S (pc + 3) ls st G k n → S pc ls (.ref a :: st) G k n
def r_non (M : ME) (S : XS) : Prop := ∀ pc ls st G k n off, decode M.2.1 pc = .ok (.ifnonnull off, 3) → S (pc + 3) ls st G k n → S pc ls (.null :: st) G k n
def r_nonR (M : ME) (S : XS) : Prop := ∀ pc ls st G k n off (tgt : Nat) a, decode M.2.1 pc = .ok (.ifnonnull off, 3) → (pc : Int) + off = (tgt : Int) → S tgt ls st G k n → S pc ls (.ref a :: st) G k n
def r_aeq (M : ME) (S : XS) : Prop := ∀ pc ls st G k n off (tgt : Nat) (a b : Nat), decode M.2.1 pc = .ok (.if_acmp .eq off, 3) → (pc : Int) + off = (tgt : Int) → (a = b → S tgt ls st G k n) → (¬ a = b → S (pc + 3) ls st G k n) → S pc ls (.ref b :: .ref a :: st) G k n
def r_ane (M : ME) (S : XS) : Prop := ∀ pc ls st G k n off (tgt : Nat) (a b : Nat), decode M.2.1 pc = .ok (.if_acmp .ne off, 3) → (pc : Int) + off = (tgt : Int) → (¬ a = b → S tgt ls st G k n) → (a = b → S (pc + 3) ls st G k n) → S pc ls (.ref b :: .ref a :: st) G k n
def r_swIn (M : ME) (S : XS) : Prop := ∀ pc ls st G k n dflt lo hi offs len x off (tgt : Nat), decode M.2.1 pc = .ok (.tableswitch dflt lo hi offs, len) → ¬ x.toInt < lo → ¬ hi < x.toInt → offs[(x.toInt - lo).toNat]? = some off → (pc : Int) + off = (tgt : Int) → S tgt ls st G k n → S pc ls (.int x :: st) G k n
def r_swOut (M : ME) (S : XS) : Prop := ∀ pc ls st G k n dflt lo hi offs len x (tgt : Nat), decode M.2.1 pc = .ok (.tableswitch dflt lo hi offs, len) → (x.toInt < lo ∨ hi < x.toInt) → (pc : Int) + dflt = (tgt : Int) → S tgt ls st G k n → S pc ls (.int x :: st) G k n
def r_ldc (M : ME) (S : XS) : Prop := ∀ pc ls st G k n i v, decode M.2.1 pc = .ok (.ldc i, 2) → tW (.constant M.1.cls i v) → S (pc + 2) ls (.int v :: st) G k n → S pc ls st G k n
def r_ldcw (M : ME) (S : XS) : Prop := ∀ pc ls st G k n i v, decode M.2.1 pc = .ok (.ldc_w i, 3) → tW (.constant M.1.cls i v) → S (pc + 3) ls (.int v :: st) G k n → S pc ls st G k n
-- the heap
def r_get (M : ME) (S : XS) : Prop := ∀ pc ls st G k n i ci kf t fin de a fs v, decode M.2.1 pc = .ok (.getfield i, 3) → FL M.1.cls i ci kf t fin de → G a = some (hO ci fs) → fs[kf]? = some v → S (pc + 3) ls (v :: st) G k n → S pc ls (.ref a :: st) G k n
def r_put (M : ME) (S : XS) : Prop := ∀ pc ls st G k n i ci kf t fin de a fs v, decode M.2.1 pc = .ok (.putfield i, 3) → FL M.1.cls i ci kf t fin de → (fin = false ∨ (fin = true ∧ M.1.name = "<init>" ∧ de = M.1.cls)) → G a = some (hO ci fs) → kf < fs.length → narrow t v = v → fits t v = true → S (pc + 3) ls st (hu G a (hO ci (fs.set kf v))) k n → S pc ls (v :: .ref a :: st) G k n
def r_new (M : ME) (mc ms : Nat) (S : XS) : Prop := ∀ pc ls st G k n i ci fs, decode M.2.1 pc = .ok (.new i, 3) → NWc M.1.cls i ci fs → k + 1 ≤ mc → n + fs.length ≤ ms → (∀ a, G a = none → S (pc + 3) ls (.ref a :: st) (hu G a (hO ci fs)) (k + 1) (n + fs.length)) → S pc ls st G k n
def arZ (i : ArrayType) (N : Nat) : Option HE := match i with
  | .int => some (hI N (fun _ => 0))
  | .boolean => some (hZ N (fun _ => 0))
  | _ => none
def r_newA (M : ME) (mc ms : Nat) (S : XS) : Prop := ∀ pc ls st G k n i x N e, decode M.2.1 pc = .ok (.newarray i, 2) → tW (.arrayClass (newarray.typeOf i)) → arZ i N = some e → ¬ x < 0 → x.toNatClampNeg = N → N ≤ 1000000 → k + 1 ≤ mc → n + N ≤ ms → (∀ a, G a = none → S (pc + 2) ls (.ref a :: st) (hu G a e) (k + 1) (n + N)) → S pc ls (.int x :: st) G k n
def r_newO (M : ME) (mc ms : Nat) (S : XS) : Prop := ∀ pc ls st G k n i x N, decode M.2.1 pc = .ok (.anewarray i, 3) → tW (.classLink M.1.cls i "java/lang/Object") → ¬ x < 0 → x.toNatClampNeg = N → N ≤ 1000000 → k + 1 ≤ mc → n + N ≤ ms → (∀ a, G a = none → S (pc + 3) ls (.ref a :: st) (hu G a (hR N (fun _ => none))) (k + 1) (n + N)) → S pc ls (.int x :: st) G k n
def r_iald (M : ME) (S : XS) : Prop := ∀ pc ls st G k n a N f i, decode M.2.1 pc = .ok (.iaload, 1) → G a = some (hI N f) → vp_in i N → S (pc + 1) ls (.int (f i.toNatClampNeg) :: st) G k n → S pc ls (.int i :: .ref a :: st) G k n
def r_zald (M : ME) (S : XS) : Prop := ∀ pc ls st G k n a N f i, decode M.2.1 pc = .ok (.baload, 1) → G a = some (hZ N f) → vp_in i N → S (pc + 1) ls (.int (f i.toNatClampNeg) :: st) G k n → S pc ls (.int i :: .ref a :: st) G k n
def r_lald (_ : ME) (_ : XS) : Prop := True
def r_aald (M : ME) (S : XS) : Prop := ∀ pc ls st G k n a N f i, decode M.2.1 pc = .ok (.aaload, 1) → G a = some (hR N f) → vp_in i N → S (pc + 1) ls (va_rf (f i.toNatClampNeg) :: st) G k n → S pc ls (.int i :: .ref a :: st) G k n
def r_iast (M : ME) (S : XS) : Prop := ∀ pc ls st G k n a N f i x, decode M.2.1 pc = .ok (.iastore, 1) → G a = some (hI N f) → vp_in i N → S (pc + 1) ls st (hu G a (hI N (va_up f i.toNatClampNeg x))) k n → S pc ls (.int x :: .int i :: .ref a :: st) G k n
def r_zast (M : ME) (S : XS) : Prop := ∀ pc ls st G k n a N f i x, decode M.2.1 pc = .ok (.bastore, 1) → G a = some (hZ N f) → vp_in i N → vp_nar .boolean x = x → S (pc + 1) ls st (hu G a (hZ N (va_up f i.toNatClampNeg x))) k n → S pc ls (.int x :: .int i :: .ref a :: st) G k n
def r_last (_ : ME) (_ : XS) : Prop := True
def r_aast (M : ME) (S : XS) : Prop := ∀ pc ls st G k n a N f i b ci fs q, decode M.2.1 pc = .ok (.aastore, 1) → G a = some (hR N f) → vp_in i N → G b = some (hO ci fs) → vwCl[ci]? = some q → tW (.castable q.1 "java/lang/Object") → S (pc + 1) ls st (hu G a (hR N (va_up f i.toNatClampNeg (some b)))) k n → S pc ls (.ref b :: .int i :: .ref a :: st) G k n
def alen : HE → Option Nat
  | .inl _ => none
  | .inr (.inl (n, _)) => some n
  | .inr (.inr (.inl (n, _))) => some n
  | .inr (.inr (.inr (.inl (n, _)))) => some n
  | .inr (.inr (.inr (.inr (n, _)))) => some n
def r_alen (M : ME) (S : XS) : Prop := ∀ pc ls st G k n a e N, decode M.2.1 pc = .ok (.arraylength, 1) → G a = some e → alen e = some N → S (pc + 1) ls (.int (nI N) :: st) G k n → S pc ls (.ref a :: st) G k n
def r_alen0 (E : XE) (M : ME) (S : XS) : Prop := ∀ pc ls st G k n, decode M.2.1 pc = .ok (.arraylength, 1) → S (pc + 1) ls (.int 0 :: st) G k n → S pc ls (.ref E.1 :: st) G k n
def r_sld (E : XE) (M : ME) (S : XS) : Prop := ∀ pc ls st G k n i, decode M.2.1 pc = .ok (.iaload, 1) → vp_in i E.2.2.2.1 → S (pc + 1) ls (.int (E.2.2.2.2 i.toNatClampNeg) :: st) G k n → S pc ls (.int i :: .ref E.2.2.1 :: st) G k n
def r_slen (E : XE) (M : ME) (S : XS) : Prop := ∀ pc ls st G k n, decode M.2.1 pc = .ok (.arraylength, 1) → S (pc + 1) ls (.int (nI E.2.2.2.1) :: st) G k n → S pc ls (.ref E.2.2.1 :: st) G k n
def r_cast (M : ME) (S : XS) : Prop := ∀ pc ls st G k n i a ci fs q nm, decode M.2.1 pc = .ok (.checkcast i, 3) → tW (.classLink M.1.cls i nm) → G a = some (hO ci fs) → vwCl[ci]? = some q → q.1 = nm → S (pc + 3) ls (.ref a :: st) G k n → S pc ls (.ref a :: st) G k n
def r_gets (E : XE) (M : ME) (S : XS) : Prop := ∀ pc ls st G k n i, decode M.2.1 pc = .ok (.getstatic i, 3) → tW (.fieldLink M.1.cls i "java/util/ArrayList" "DEFAULTCAPACITY_EMPTY_ELEMENTDATA" "[Ljava/lang/Object;") → S (pc + 3) ls (.ref E.1 :: st) G k n → S pc ls st G k n
def r_ldcM (E : XE) (M : ME) (S : XS) : Prop := ∀ pc ls st G k n i, decode M.2.1 pc = .ok (.ldc i, 2) → tW (.classLink M.1.cls i "[Ljava/lang/Object;") → S (pc + 2) ls (.ref E.2.1 :: st) G k n → S pc ls st G k n
def r_getC (E : XE) (d : Nat) (M : ME) (S : XS) : Prop := ∀ pc ls st G k n i a N f, decode M.2.1 pc = .ok (.invokevirtual i, 3) → tW (.methodLink M.1.cls i ⟨"java/lang/Object", "getClass", "()Ljava/lang/Class;"⟩) → 1 ≤ d → cats st ≤ 8 → G a = some (hR N f) → S (pc + 3) ls (.ref E.2.1 :: st) G k n → S pc ls (.ref a :: st) G k n
def r_copy (d : Nat) (M : ME) (S : XS) : Prop := ∀ pc ls st G k n i a b N1 N2 f g L, decode M.2.1 pc = .ok (.invokestatic i, 3) → tW (.methodLink M.1.cls i arraycopyName) → 1 ≤ d → cats st ≤ 8 → a ≠ b → G a = some (hR N1 f) → G b = some (hR N2 g) → L < 2 ^ 31 → L ≤ N1 → L ≤ N2 → (∀ j, j < L → ∀ y, f j = some y → ∃ ci fs q, G y = some (hO ci fs) ∧ vwCl[ci]? = some q ∧ tW (.castable q.1 "java/lang/Object")) → S (pc + 3) ls st (hu G b (hR N2 (va_cpy f g 0 0 L))) k n → S pc ls (.int (nI L) :: .int 0 :: .ref b :: .int 0 :: .ref a :: st) G k n
def r_max (d : Nat) (M : ME) (S : XS) : Prop := ∀ pc ls st G k n i x y, decode M.2.1 pc = .ok (.invokestatic i, 3) → tW (.methodLink M.1.cls i Lib.Math.max.name) → 1 ≤ d → cats st ≤ 8 → S (pc + 3) ls (.int (if x < y then y else x) :: st) G k n → S pc ls (.int y :: .int x :: st) G k n
def r_min (d : Nat) (M : ME) (S : XS) : Prop := ∀ pc ls st G k n i x y, decode M.2.1 pc = .ok (.invokestatic i, 3) → tW (.methodLink M.1.cls i Lib.Math.min.name) → 1 ≤ d → cats st ≤ 8 → S (pc + 3) ls (.int (if y < x then y else x) :: st) G k n → S pc ls (.int y :: .int x :: st) G k n
-- calls
def KT (M : ME) (P : Ps) (S : XS) (pc : Nat) (ls : List (Option Value)) (rest : List Value) (k n : Nat) : Ps := fun oc G => match oc with
  | .inl v => S (pc + 3) ls (v.toList ++ rest) G k n
  | .inr X => (HF M.1.cls pc X M.2.2.2 none ∧ P (.inr X) G) ∨ (∃ h, HF M.1.cls pc X M.2.2.2 (some h) ∧ ∀ q, S h ls [.ref q] G k n)
def r_invS (Φ : SPt) (M : ME) (mc ms : Nat) (P : Ps) (S : XS) : Prop := ∀ pc ls st G k n i y as mc' ms', decode M.2.1 pc = .ok (.invokestatic i, 3) → (CLs M.1.cls i y as.length ∨ CLsN M.1.cls i y as.length) → cats st ≤ 8 → k + mc' ≤ mc → n + ms' ≤ ms → Φ y mc' ms' as G (KT M P S pc ls st (k + mc') (n + ms')) → S pc ls (as.reverse ++ st) G k n
def r_invV (Φ : SPt) (M : ME) (mc ms : Nat) (P : Ps) (S : XS) : Prop := ∀ pc ls st G k n i y b as mc' ms' ci fs, decode M.2.1 pc = .ok (.invokevirtual i, 3) → CLv M.1.cls i y as.length ci → G b = some (hO ci fs) → cats st ≤ 8 → k + mc' ≤ mc → n + ms' ≤ ms → Φ y mc' ms' (.ref b :: as) G (KT M P S pc ls st (k + mc') (n + ms')) → S pc ls (as.reverse ++ .ref b :: st) G k n
def r_invI (Φ : SPt) (M : ME) (mc ms : Nat) (P : Ps) (S : XS) : Prop := ∀ pc ls st G k n i y b as mc' ms', decode M.2.1 pc = .ok (.invokespecial i, 3) → (CLi M.1.cls i y as.length ∨ CLiN M.1.cls i y as.length) → cats st ≤ 8 → k + mc' ≤ mc → n + ms' ≤ ms → Φ y mc' ms' (.ref b :: as) G (KT M P S pc ls st (k + mc') (n + ms')) → S pc ls (as.reverse ++ .ref b :: st) G k n
def r_obj (M : ME) (S : XS) : Prop := ∀ pc ls st G k n i a, decode M.2.1 pc = .ok (.invokespecial i, 3) → tW (.methodLink M.1.cls i Lib.objectInit) → cats st ≤ 8 → S (pc + 3) ls st G k n → S pc ls (.ref a :: st) G k n
-- ends
def r_iret (M : ME) (P : Ps) (S : XS) : Prop := ∀ pc ls G k n v ty, decode M.2.1 pc = .ok (.ireturn, 1) → M.2.2.1 = some ty → narrow ty (.int v) = .int v → P (.inl (some (.int v))) G → S pc ls [.int v] G k n
def r_aret (M : ME) (P : Ps) (S : XS) : Prop := ∀ pc ls G k n v rt, decode M.2.1 pc = .ok (.areturn, 1) → M.2.2.1 = some rt → ((∃ n, rt = .object n) ∨ ∃ t, rt = .array t) → (v = .null ∨ ∃ a, v = .ref a) → P (.inl (some v)) G → S pc ls [v] G k n
def r_vret (M : ME) (P : Ps) (S : XS) : Prop := ∀ pc ls G k n, decode M.2.1 pc = .ok (.return_, 1) → M.2.2.1 = none → P (.inl none) G → S pc ls [] G k n
def r_thr (d : Nat) (M : ME) (mc ms : Nat) (P : Ps) (S : XS) : Prop := ∀ pc ls st G k n ik is ic X text, decode M.2.1 pc = .ok (.new ik, 3) → decode M.2.1 (pc + 3) = .ok (.dup, 1) → ((decode M.2.1 (pc + 4) = .ok (.ldc is, 2) ∧ decode M.2.1 (pc + 6) = .ok (.invokespecial ic, 3) ∧ decode M.2.1 (pc + 9) = .ok (.athrow, 1)) ∨ (decode M.2.1 (pc + 4) = .ok (.ldc_w is, 3) ∧ decode M.2.1 (pc + 7) = .ok (.invokespecial ic, 3) ∧ decode M.2.1 (pc + 10) = .ok (.athrow, 1))) → TH M.1.cls ik is ic X text → M.2.2.2 = [] → 5 ≤ d → cats st ≤ 8 → k + 1 ≤ mc → n + 6 ≤ ms → P (.inr X) G → S pc ls st G k n
def XR1 (M : ME) (S : XS) : Prop := r_pure M S ∧ r_load M S ∧ r_store M S ∧ r_iinc M S ∧ r_dup M S ∧ r_dupx M S ∧ r_dup2 M S ∧ r_pop M S ∧ r_div M S ∧ r_rem M S ∧ r_if M S ∧ r_icmp M S ∧ r_goto M S ∧ r_nul M S ∧ r_nulR M S ∧ r_non M S ∧ r_nonR M S ∧ r_aeq M S ∧ r_ane M S ∧ r_swIn M S ∧ r_swOut M S ∧ r_ldc M S ∧ r_ldcw M S
def XR2 (E : XE) (d : Nat) (M : ME) (mc ms : Nat) (S : XS) : Prop := r_get M S ∧ r_put M S ∧ r_new M mc ms S ∧ r_newA M mc ms S ∧ r_newO M mc ms S ∧ r_iald M S ∧ r_zald M S ∧ r_lald M S ∧ r_aald M S ∧ r_iast M S ∧ r_zast M S ∧ r_last M S ∧ r_aast M S ∧ r_alen M S ∧ r_alen0 E M S ∧ r_sld E M S ∧ r_slen E M S ∧ r_cast M S ∧ r_gets E M S ∧ r_ldcM E M S ∧ r_getC E d M S ∧ r_copy d M S ∧ r_max d M S ∧ r_min d M S
def XR3 (Φ : SPt) (d : Nat) (M : ME) (mc ms : Nat) (P : Ps) (S : XS) : Prop := r_invS Φ M mc ms P S ∧ r_invV Φ M mc ms P S ∧ r_invI Φ M mc ms P S ∧ r_obj M S ∧ r_iret M P S ∧ r_aret M P S ∧ r_vret M P S ∧ r_thr d M mc ms P S
/-- the least set of states that keeps the rules -/
def WP (E : XE) (Φ : SPt) (d : Nat) (M : ME) (mc ms : Nat) (P : Ps) : XS := fun pc ls st G k n => ∀ S : XS, XR1 M S → XR2 E d M mc ms S → XR3 Φ d M mc ms P S → S pc ls st G k n
def enL (as : List Value) (maxL : Nat) : List (Option Value) := as.map some ++ List.replicate (maxL - as.length) none
/-- method y called with as in G comes to an end with P, by calls at most d deep, making at most mc cells of ms slots -/
def Sp (E : XE) : Nat → SPt
  | 0 => fun _ _ _ _ _ _ => False
  | d + 1 => fun y mc ms as G P => ∃ cc maxL ret hh, Body y cc maxL ret hh ∧ (∀ v ∈ as, v1 v) ∧ as.length ≤ maxL ∧ WP E (Sp E d) d (y, cc, ret, hh) mc ms P 0 (enL as maxL) [] G 0 0
