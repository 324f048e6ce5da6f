/- A small machine over places: ints in (place, slot), references in (place, slot), one long. -/
abbrev zM : Type := (Nat → Nat → Int32) × (Nat → Nat → Nat) × Int64
abbrev zQ : Type := Nat → (Nat → Value) → List Value → zM → Prop
abbrev zX : Type := Nat → zY → Nat → (Nat → Value) → List Value → zM → zQ → Prop
def zu (L : Nat → Value) (k : Nat) (v : Value) : Nat → Value := fun i => bif Nat.beq i k then v else L i
def zI (M : zM) (o k : Nat) (x : Int32) : zM := (fun a => if a = o then upd (M.1 o) k x else M.1 a, M.2.1, M.2.2)
def zP (M : zM) (o k p : Nat) : zM := (M.1, (fun a i => if a = o ∧ i = k then p else M.2.1 a i), M.2.2)
def zJ (M : zM) (x : Int64) : zM := (M.1, M.2.1, x)
def zCp (M : zM) (o o' sp dp n : Nat) : zM := (fun a => if a = o' then va_cpy (M.1 o) (M.1 o') sp dp n else M.1 a, M.2.1, M.2.2)
def zconst : Instr → Option (Int32 × Nat)
  | .iconst n => some (Int32.ofInt n, 1)
  | .bipush n => some ((Int8.ofInt n).toInt32, 2)
  | .sipush n => some ((Int16.ofInt n).toInt32, 3)
  | _ => none
def zil : Instr → Option (Nat × Nat)
  | .iload_n k => some (k.val, 1)
  | .iload i => some (i, 2)
  | _ => none
def zal : Instr → Option (Nat × Nat)
  | .aload_n k => some (k.val, 1)
  | .aload i => some (i, 2)
  | _ => none
def zis : Instr → Option (Nat × Nat)
  | .istore_n k => some (k.val, 1)
  | .istore i => some (i, 2)
  | _ => none
def zas : Instr → Option (Nat × Nat)
  | .astore_n k => some (k.val, 1)
  | .astore i => some (i, 2)
  | _ => none
def zbin : Instr → Int32 → Int32 → Option Int32
  | .iadd, x, y => some (x + y)
  | .isub, x, y => some (x - y)
  | .imul, x, y => some (x * y)
  | .iand, x, y => some (x &&& y)
  | .ishr, x, y => some (x >>> (y &&& 31))
  | .idiv, x, y => if y = 0 then none else some (x / y)
  | .irem, x, y => if y = 0 then none else some (x - x / y * y)
  | _, _, _ => none
def zun : Instr → Int32 → Option Int32
  | .ineg, x => some (-x)
  | .i2c, x => some (x.toUInt32 % 65536).toInt32
  | .i2b, x => some x.toInt8.toInt32
  | _, _ => none
def zstk : Instr → List Value → Option (List Value)
  | .dup, a :: r => if a.category = 1 then some (a :: a :: r) else none
  | .pop, a :: r => if a.category = 1 then some r else none
  | .dup_x1, a :: b :: r => if a.category = 1 ∧ b.category = 1 then some (a :: b :: a :: r) else none
  | .dup_x2, a :: b :: e :: r => if a.category = 1 ∧ b.category = 1 ∧ e.category = 1 then some (a :: b :: e :: a :: r) else none
  | .dup2, a :: b :: r => if a.category = 1 ∧ b.category = 1 then some (a :: b :: a :: b :: r) else none
  | _, _ => none
def zcond : Jvm.ClassFile.Cond → Int32 → Int32 → Prop
  | .eq, x, y => x = y
  | .ne, x, y => ¬ x = y
  | .lt, x, y => x < y
  | .ge, x, y => y ≤ x
  | .gt, x, y => y < x
  | .le, x, y => x ≤ y
def zld : Instr → Option Nat
  | .iaload => some 0
  | .caload => some 1
  | .baload => some 2
  | _ => none
def zst : Instr → Option Nat
  | .iastore => some 0
  | .castore => some 1
  | .bastore => some 2
  | _ => none
def ztt : Nat → FieldType
  | 0 => .int
  | 1 => .char
  | 2 => .boolean
  | _ => .long
def znr (t : Nat) (x : Int32) : Int32 := if t = 0 then x else vp_nar (ztt t) x
/-- a field's link: class number, slot, is it a reference -/
def zFld (own : String) (idx ci k : Nat) (r : Bool) : Prop := ∃ (C : String) (T : u_T) (N : Nat), zcl[ci]? = some (C, T, N) ∧ k < N ∧ Jvm.Cond.fieldLink own idx (T k).1 (T k).2.1 (T k).2.2.1 ∈ zT ∧ (zrf ci)[k]? = some r
/-- a field that may be written: its type -/
def zFlw (ci k : Nat) (ty : FieldType) : Prop := ∃ (C : String) (T : u_T) (N : Nat), zcl[ci]? = some (C, T, N) ∧ (T k).2.2.2 = false ∧ parseFieldDescriptor (T k).2.2.1 = some ty
/-- a call's link -/
def zLk (own : String) (idx : Nat) (y : zY) (n : Nat) : Prop := (Jvm.Cond.methodLink own idx y.1 ∈ zT ∧ Jvm.Cond.initialized y.1.cls ∈ zT ∧ Jvm.Cond.code y.1 y.2.1 y.2.2.1 y.2.2.2 ∈ zT) ∧ plainName y.1.cls = true ∧ (y.1.cls ≠ "java/lang/invoke/MethodHandle" ∧ y.1.cls ≠ "java/lang/invoke/VarHandle" ∧ (parseMethodDescriptor y.1.desc).map (fun d => d.parameters.length) = some n) ∧ y.2.2.1 ≤ 40
def zLkS (own : String) (idx : Nat) (y : zY) (n : Nat) : Prop := zLk own idx y n ∧ Jvm.Cond.static y.1 ∈ zT
def zLkV (own : String) (idx : Nat) (y : zY) (n : Nat) : Prop := zLk own idx y n ∧ Jvm.Cond.instanceMethod y.1 ∈ zT ∧ Jvm.Cond.selects y.1.cls y.1 y.1 ∈ zT
def zarg (As : List Value) : Nat → Value := fun i => As.getD i .null
def zpush : Option Int32 → List Value → List Value
  | none, r => r
  | some x, r => .int x :: r
/-- the frame of y stands at its return, with this answer -/
def zEnd (y : zY) (pc : Nat) (st : List Value) : Option Int32 → Prop
  | none => decode y.2.1 pc = .ok (.return_, 1) ∧ st = [] ∧ y.2.2.2 = none
  | some x => decode y.2.1 pc = .ok (.ireturn, 1) ∧ st = [.int x] ∧ ∃ ty, y.2.2.2 = some ty ∧ narrow ty (.int x) = .int x
def zcat (st : List Value) : Nat := (st.map fun v => v.category).sum
/-- the receiver: an object of the world, or the string of signs -/
def zrec (o : Nat) (C : String) : Prop := (∃ (ci : Nat) (T : u_T) (N : Nat), zsh[o]? = some (.inr ci) ∧ zcl[ci]? = some (C, T, N)) ∨ (o = 1001 ∧ C = "java/lang/String")
section
variable (X : zX) (Lx : Nat) (xs : Nat → Int32)
def zr_done : Prop := ∀ d y pc L st M (Q : zQ), Q pc L st M → X d y pc L st M Q
def zr_const : Prop := ∀ d y pc L st M Q ins len v, decode y.2.1 pc = .ok (ins, len) → zconst ins = some (v, len) → X d y (pc + len) L (.int v :: st) M Q → X d y pc L st M Q
def zr_il : Prop := ∀ d y pc L st M Q ins len i x, decode y.2.1 pc = .ok (ins, len) → zil ins = some (i, len) → L i = .int x → X d y (pc + len) L (.int x :: st) M Q → X d y pc L st M Q
def zr_al : Prop := ∀ d y pc L st M Q ins len i x, decode y.2.1 pc = .ok (ins, len) → zal ins = some (i, len) → L i = .ref x → X d y (pc + len) L (.ref x :: st) M Q → X d y pc L st M Q
def zr_is : Prop := ∀ d y pc L st M Q ins len i x, decode y.2.1 pc = .ok (ins, len) → zis ins = some (i, len) → i < y.2.2.1 → X d y (pc + len) (zu L i (.int x)) st M Q → X d y pc L (.int x :: st) M Q
def zr_as : Prop := ∀ d y pc L st M Q ins len i x, decode y.2.1 pc = .ok (ins, len) → zas ins = some (i, len) → i < y.2.2.1 → X d y (pc + len) (zu L i (.ref x)) st M Q → X d y pc L (.ref x :: st) M Q
def zr_inc : Prop := ∀ d y pc L st M Q i n x, decode y.2.1 pc = .ok (.iinc i n, 3) → L i = .int x → X d y (pc + 3) (zu L i (.int (x + Int32.ofInt n))) st M Q → X d y pc L st M Q
def zr_bin : Prop := ∀ d y pc L st M Q ins a b v, decode y.2.1 pc = .ok (ins, 1) → zbin ins a b = some v → X d y (pc + 1) L (.int v :: st) M Q → X d y pc L (.int b :: .int a :: st) M Q
def zr_un : Prop := ∀ d y pc L st M Q ins a v, decode y.2.1 pc = .ok (ins, 1) → zun ins a = some v → X d y (pc + 1) L (.int v :: st) M Q → X d y pc L (.int a :: st) M Q
def zr_stk : Prop := ∀ d y pc L st st' M Q ins, decode y.2.1 pc = .ok (ins, 1) → zstk ins st = some st' → X d y (pc + 1) L st' M Q → X d y pc L st M Q
def zr_icmp : Prop := ∀ d y pc L st M Q op off (tgt : Nat) a b, decode y.2.1 pc = .ok (.if_icmp op off, 3) → (pc : Int) + off = (tgt : Int) → (zcond op a b → X d y tgt L st M Q) → (¬ zcond op a b → X d y (pc + 3) L st M Q) → X d y pc L (.int b :: .int a :: st) M Q
def zr_if : Prop := ∀ d y pc L st M Q op off (tgt : Nat) a, decode y.2.1 pc = .ok (.ifCond op off, 3) → (pc : Int) + off = (tgt : Int) → (zcond op a 0 → X d y tgt L st M Q) → (¬ zcond op a 0 → X d y (pc + 3) L st M Q) → X d y pc L (.int a :: st) M Q
def zr_goto : Prop := ∀ d y pc L st M Q off (tgt : Nat), decode y.2.1 pc = .ok (.goto off, 3) → (pc : Int) + off = (tgt : Int) → X d y tgt L st M Q → X d y pc L st M Q
def zr_tin : Prop := ∀ d y pc L st M Q dflt lo hi offs len off (tgt : Nat) (a : Int32), decode y.2.1 pc = .ok (.tableswitch dflt lo hi offs, len) → ¬ a.toInt < lo → ¬ hi < a.toInt → offs[(a.toInt - lo).toNat]? = some off → (pc : Int) + off = (tgt : Int) → X d y tgt L st M Q → X d y pc L (.int a :: st) M Q
def zr_tout : Prop := ∀ d y pc L st M Q dflt lo hi offs len (tgt : Nat) (a : Int32), decode y.2.1 pc = .ok (.tableswitch dflt lo hi offs, len) → (a.toInt < lo ∨ hi < a.toInt) → (pc : Int) + dflt = (tgt : Int) → X d y tgt L st M Q → X d y pc L (.int a :: st) M Q
def zr_geti : Prop := ∀ d y pc L st M Q idx o ci k, decode y.2.1 pc = .ok (.getfield idx, 3) → zFld y.1.cls idx ci k false → zsh[o]? = some (.inr ci) → X d y (pc + 3) L (.int (M.1 o k) :: st) M Q → X d y pc L (.ref o :: st) M Q
def zr_getr : Prop := ∀ d y pc L st M Q idx o ci k, decode y.2.1 pc = .ok (.getfield idx, 3) → zFld y.1.cls idx ci k true → zsh[o]? = some (.inr ci) → X d y (pc + 3) L (.ref (M.2.1 o k) :: st) M Q → X d y pc L (.ref o :: st) M Q
def zr_puti : Prop := ∀ d y pc L st M Q idx o ci k x ty, decode y.2.1 pc = .ok (.putfield idx, 3) → zFld y.1.cls idx ci k false → zFlw ci k ty → zsh[o]? = some (.inr ci) → narrow ty (.int x) = .int x → fits ty (.int x) = true → X d y (pc + 3) L st (zI M o k x) Q → X d y pc L (.int x :: .ref o :: st) M Q
def zr_putr : Prop := ∀ d y pc L st M Q idx o ci k x C, decode y.2.1 pc = .ok (.putfield idx, 3) → zFld y.1.cls idx ci k true → zFlw ci k (.object C) → zsh[o]? = some (.inr ci) → X d y (pc + 3) L st (zP M o k x) Q → X d y pc L (.ref x :: .ref o :: st) M Q
def zr_ald : Prop := ∀ d y pc L st M Q ins t o n i, decode y.2.1 pc = .ok (ins, 1) → zld ins = some t → zsh[o]? = some (.inl (t, n)) → vp_in i n → X d y (pc + 1) L (.int (M.1 o i.toNatClampNeg) :: st) M Q → X d y pc L (.int i :: .ref o :: st) M Q
def zr_ast : Prop := ∀ d y pc L st M Q ins t o n i x, decode y.2.1 pc = .ok (ins, 1) → zst ins = some t → zsh[o]? = some (.inl (t, n)) → vp_in i n → X d y (pc + 1) L st (zI M o i.toNatClampNeg (znr t x)) Q → X d y pc L (.int x :: .int i :: .ref o :: st) M Q
def zr_alen : Prop := ∀ d y pc L st M Q t o n, decode y.2.1 pc = .ok (.arraylength, 1) → zsh[o]? = some (.inl (t, n)) → X d y (pc + 1) L (.int (nI n) :: st) M Q → X d y pc L (.ref o :: st) M Q
def zr_lald : Prop := ∀ d y pc L st M Q o i, decode y.2.1 pc = .ok (.laload, 1) → zsh[o]? = some (.inl (3, 1)) → vp_in i 1 → X d y (pc + 1) L (.long M.2.2 :: st) M Q → X d y pc L (.int i :: .ref o :: st) M Q
def zr_last : Prop := ∀ d y pc L st M Q o i x, decode y.2.1 pc = .ok (.lastore, 1) → zsh[o]? = some (.inl (3, 1)) → vp_in i 1 → X d y (pc + 1) L st (zJ M x) Q → X d y pc L (.long x :: .int i :: .ref o :: st) M Q
def zr_i2l : Prop := ∀ d y pc L st M Q (x : Int32), decode y.2.1 pc = .ok (.i2l, 1) → X d y (pc + 1) L (.long x.toInt64 :: st) M Q → X d y pc L (.int x :: st) M Q
def zr_lcmp : Prop := ∀ d y pc L st M Q (a b : Int64), decode y.2.1 pc = .ok (.lcmp, 1) → X d y (pc + 1) L (.int (lg_cmp a b) :: st) M Q → X d y pc L (.long b :: .long a :: st) M Q
def zr_sld : Prop := ∀ d y pc L st M Q i, decode y.2.1 pc = .ok (.iaload, 1) → vp_in i Lx → X d y (pc + 1) L (.int (xs i.toNatClampNeg) :: st) M Q → X d y pc L (.int i :: .ref 1000 :: st) M Q
def zr_slen : Prop := ∀ d y pc L st M Q, decode y.2.1 pc = .ok (.arraylength, 1) → X d y (pc + 1) L (.int (nI Lx) :: st) M Q → X d y pc L (.ref 1000 :: st) M Q
def zr_copy : Prop := ∀ d y pc L st M Q idx t o n o' n' sp dp k, decode y.2.1 pc = .ok (.invokestatic idx, 3) → Jvm.Cond.methodLink y.1.cls idx arraycopyName ∈ zT → zsh[o]? = some (.inl (t, n)) → zsh[o']? = some (.inl (t, n')) → (t = 0 ∨ t = 1) → sp + k ≤ n → dp + k ≤ n' → (∀ i, i < k → fits (ztt t) (.int (M.1 o (sp + i))) = true) → zcat st ≤ 8 → X (d + 1) y (pc + 3) L st (zCp M o o' sp dp k) Q → X (d + 1) y pc L (.int (nI k) :: .int (nI dp) :: .ref o' :: .int (nI sp) :: .ref o :: st) M Q
def zr_max : Prop := ∀ d y pc L st M Q idx a b, decode y.2.1 pc = .ok (.invokestatic idx, 3) → Jvm.Cond.methodLink y.1.cls idx Lib.Math.max.name ∈ zT → zcat st ≤ 8 → X (d + 1) y (pc + 3) L (.int (if a < b then b else a) :: st) M Q → X (d + 1) y pc L (.int b :: .int a :: st) M Q
def zr_min : Prop := ∀ d y pc L st M Q idx a b, decode y.2.1 pc = .ok (.invokestatic idx, 3) → Jvm.Cond.methodLink y.1.cls idx Lib.Math.min.name ∈ zT → zcat st ≤ 8 → X (d + 1) y (pc + 3) L (.int (if b < a then b else a) :: st) M Q → X (d + 1) y pc L (.int b :: .int a :: st) M Q
def zr_ldcS : Prop := ∀ d y pc L st M Q, decode y.2.1 pc = .ok (.ldc zsi, 2) → y.1.cls = zso → X d y (pc + 2) L (.ref 1001 :: st) M Q → X d y pc L st M Q
def zr_sval : Prop := ∀ d y pc L st M Q idx, decode y.2.1 pc = .ok (.getfield idx, 3) → Jvm.Cond.fieldLink y.1.cls idx "java/lang/String" "value" "[B" ∈ zT → X d y (pc + 3) L (.ref 1002 :: st) M Q → X d y pc L (.ref 1001 :: st) M Q
def zr_scod : Prop := ∀ d y pc L st M Q idx, decode y.2.1 pc = .ok (.getfield idx, 3) → Jvm.Cond.fieldLink y.1.cls idx "java/lang/String" "coder" "B" ∈ zT → X d y (pc + 3) L (.int 0 :: st) M Q → X d y pc L (.ref 1001 :: st) M Q
def zr_scmp : Prop := ∀ d y pc L st M Q idx, decode y.2.1 pc = .ok (.getstatic idx, 3) → Jvm.Cond.fieldLink y.1.cls idx "java/lang/String" "COMPACT_STRINGS" "Z" ∈ zT → X d y (pc + 3) L (.int 1 :: st) M Q → X d y pc L st M Q
def zr_sbld : Prop := ∀ d y pc L st M Q i, decode y.2.1 pc = .ok (.baload, 1) → vp_in i zsn → X d y (pc + 1) L (.int (zsb.getD i.toNatClampNeg 0) :: st) M Q → X d y pc L (.int i :: .ref 1002 :: st) M Q
def zr_sblen : Prop := ∀ d y pc L st M Q, decode y.2.1 pc = .ok (.arraylength, 1) → X d y (pc + 1) L (.int (nI zsn) :: st) M Q → X d y pc L (.ref 1002 :: st) M Q
def zr_callS : Prop := ∀ d y pc L st M Q idx (k : zY) (As : List Value) (R : Option Int32 → zM → Prop), decode y.2.1 pc = .ok (.invokestatic idx, 3) → zLkS y.1.cls idx k As.length → (∀ v ∈ As, v.category = 1) → As.length ≤ k.2.2.1 → zcat st ≤ 8 → X d k 0 (zarg As) [] M (fun pc' _ st' M' => ∃ o, zEnd k pc' st' o ∧ R o M') → (∀ o M', R o M' → X (d + 1) y (pc + 3) L (zpush o st) M' Q) → X (d + 1) y pc L (As.reverse ++ st) M Q
def zr_callV : Prop := ∀ d y pc L st M Q idx (k : zY) (b : Nat) (As : List Value) (R : Option Int32 → zM → Prop), decode y.2.1 pc = .ok (.invokevirtual idx, 3) → zLkV y.1.cls idx k As.length → zrec b k.1.cls → (∀ v ∈ As, v.category = 1) → As.length + 1 ≤ k.2.2.1 → zcat st ≤ 8 → X d k 0 (zarg (.ref b :: As)) [] M (fun pc' _ st' M' => ∃ o, zEnd k pc' st' o ∧ R o M') → (∀ o M', R o M' → X (d + 1) y (pc + 3) L (zpush o st) M' Q) → X (d + 1) y pc L (As.reverse ++ .ref b :: st) M Q
end
def zRules (Lx : Nat) (xs : Nat → Int32) (X : zX) : Prop := zr_done X ∧ zr_const X ∧ zr_il X ∧ zr_al X ∧ zr_is X ∧ zr_as X ∧ zr_inc X ∧ zr_bin X ∧ zr_un X ∧ zr_stk X ∧ zr_icmp X ∧ zr_if X ∧ zr_goto X ∧ zr_tin X ∧ zr_tout X ∧ zr_geti X ∧ zr_getr X ∧ zr_puti X ∧ zr_putr X ∧ zr_ald X ∧ zr_ast X ∧ zr_alen X ∧ zr_lald X ∧ zr_last X ∧ zr_i2l X ∧ zr_lcmp X ∧ zr_sld X Lx xs ∧ zr_slen X Lx ∧ zr_copy X ∧ zr_max X ∧ zr_min X ∧ zr_ldcS X ∧ zr_sval X ∧ zr_scod X ∧ zr_scmp X ∧ zr_sbld X ∧ zr_sblen X ∧ zr_callS X ∧ zr_callV X
def Ev (Lx : Nat) (xs : Nat → Int32) : zX := fun d y pc L st M Q => ∀ X : zX, zRules Lx xs X → X d y pc L st M Q
section
variable {Lx : Nat} {xs : Nat → Int32}
theorem ev_done {d : Nat} {y : zY} {pc : Nat} {L : Nat → Value} {st : List Value} {M : zM} {Q : zQ} (h0 : Q pc L st M) : Ev Lx xs d y pc L st M Q := fun X h => h.1 _ _ _ _ _ _ _ h0
theorem ev_const {d : Nat} {y : zY} {pc : Nat} {L : Nat → Value} {st : List Value} {M : zM} {Q : zQ} {ins : Instr} {len : Nat} {v : Int32} (h0 : decode y.2.1 pc = .ok (ins, len)) (h1 : zconst ins = some (v, len)) (h2 : Ev Lx xs d y (pc + len) L (.int v :: st) M Q) : Ev Lx xs d y pc L st M Q := fun X h => h.2.1 _ _ _ _ _ _ _ _ _ _ h0 h1 (h2 X h)
theorem ev_il {d : Nat} {y : zY} {pc : Nat} {L : Nat → Value} {st : List Value} {M : zM} {Q : zQ} {ins : Instr} {len : Nat} {i : Nat} {x : Int32} (h0 : decode y.2.1 pc = .ok (ins, len)) (h1 : zil ins = some (i, len)) (h2 : L i = .int x) (h3 : Ev Lx xs d y (pc + len) L (.int x :: st) M Q) : Ev Lx xs d y pc L st M Q := fun X h => h.2.2.1 _ _ _ _ _ _ _ _ _ _ _ h0 h1 h2 (h3 X h)
theorem ev_al {d : Nat} {y : zY} {pc : Nat} {L : Nat → Value} {st : List Value} {M : zM} {Q : zQ} {ins : Instr} {len : Nat} {i : Nat} {x : Nat} (h0 : decode y.2.1 pc = .ok (ins, len)) (h1 : zal ins = some (i, len)) (h2 : L i = .ref x) (h3 : Ev Lx xs d y (pc + len) L (.ref x :: st) M Q) : Ev Lx xs d y pc L st M Q := fun X h => h.2.2.2.1 _ _ _ _ _ _ _ _ _ _ _ h0 h1 h2 (h3 X h)
theorem ev_is {d : Nat} {y : zY} {pc : Nat} {L : Nat → Value} {st : List Value} {M : zM} {Q : zQ} {ins : Instr} {len : Nat} {i : Nat} {x : Int32} (h0 : decode y.2.1 pc = .ok (ins, len)) (h1 : zis ins = some (i, len)) (h2 : i < y.2.2.1) (h3 : Ev Lx xs d y (pc + len) (zu L i (.int x)) st M Q) : Ev Lx xs d y pc L (.int x :: st) M Q := fun X h => h.2.2.2.2.1 _ _ _ _ _ _ _ _ _ _ _ h0 h1 h2 (h3 X h)
theorem ev_as {d : Nat} {y : zY} {pc : Nat} {L : Nat → Value} {st : List Value} {M : zM} {Q : zQ} {ins : Instr} {len : Nat} {i : Nat} {x : Nat} (h0 : decode y.2.1 pc = .ok (ins, len)) (h1 : zas ins = some (i, len)) (h2 : i < y.2.2.1) (h3 : Ev Lx xs d y (pc + len) (zu L i (.ref x)) st M Q) : Ev Lx xs d y pc L (.ref x :: st) M Q := fun X h => h.2.2.2.2.2.1 _ _ _ _ _ _ _ _ _ _ _ h0 h1 h2 (h3 X h)
theorem ev_inc {d : Nat} {y : zY} {pc : Nat} {L : Nat → Value} {st : List Value} {M : zM} {Q : zQ} {i : Nat} {n : Int} {x : Int32} (h0 : decode y.2.1 pc = .ok (.iinc i n, 3)) (h1 : L i = .int x) (h2 : Ev Lx xs d y (pc + 3) (zu L i (.int (x + Int32.ofInt n))) st M Q) : Ev Lx xs d y pc L st M Q := fun X h => h.2.2.2.2.2.2.1 _ _ _ _ _ _ _ _ _ _ h0 h1 (h2 X h)
theorem ev_bin {d : Nat} {y : zY} {pc : Nat} {L : Nat → Value} {st : List Value} {M : zM} {Q : zQ} {ins : Instr} {a : Int32} {b : Int32} {v : Int32} (h0 : decode y.2.1 pc = .ok (ins, 1)) (h1 : zbin ins a b = some v) (h2 : Ev Lx xs d y (pc + 1) L (.int v :: st) M Q) : Ev Lx xs d y pc L (.int b :: .int a :: st) M Q := fun X h => h.2.2.2.2.2.2.2.1 _ _ _ _ _ _ _ _ _ _ _ h0 h1 (h2 X h)
theorem ev_un {d : Nat} {y : zY} {pc : Nat} {L : Nat → Value} {st : List Value} {M : zM} {Q : zQ} {ins : Instr} {a : Int32} {v : Int32} (h0 : decode y.2.1 pc = .ok (ins, 1)) (h1 : zun ins a = some v) (h2 : Ev Lx xs d y (pc + 1) L (.int v :: st) M Q) : Ev Lx xs d y pc L (.int a :: st) M Q := fun X h => h.2.2.2.2.2.2.2.2.1 _ _ _ _ _ _ _ _ _ _ h0 h1 (h2 X h)
theorem ev_stk {d : Nat} {y : zY} {pc : Nat} {L : Nat → Value} {st : List Value} {st' : List Value} {M : zM} {Q : zQ} {ins : Instr} (h0 : decode y.2.1 pc = .ok (ins, 1)) (h1 : zstk ins st = some st') (h2 : Ev Lx xs d y (pc + 1) L st' M Q) : Ev Lx xs d y pc L st M Q := fun X h => h.2.2.2.2.2.2.2.2.2.1 _ _ _ _ _ _ _ _ _ h0 h1 (h2 X h)
theorem ev_icmp {d : Nat} {y : zY} {pc : Nat} {L : Nat → Value} {st : List Value} {M : zM} {Q : zQ} {op : Jvm.ClassFile.Cond} {off : Int} {tgt : Nat} {a : Int32} {b : Int32} (h0 : decode y.2.1 pc = .ok (.if_icmp op off, 3)) (h1 : (pc : Int) + off = (tgt : Int)) (h2 : (zcond op a b → Ev Lx xs d y tgt L st M Q)) (h3 : (¬ zcond op a b → Ev Lx xs d y (pc + 3) L st M Q)) : Ev Lx xs d y pc L (.int b :: .int a :: st) M Q := fun X h => h.2.2.2.2.2.2.2.2.2.2.1 _ _ _ _ _ _ _ _ _ _ _ _ h0 h1 (fun hh => h2 hh X h) (fun hh => h3 hh X h)
theorem ev_if {d : Nat} {y : zY} {pc : Nat} {L : Nat → Value} {st : List Value} {M : zM} {Q : zQ} {op : Jvm.ClassFile.Cond} {off : Int} {tgt : Nat} {a : Int32} (h0 : decode y.2.1 pc = .ok (.ifCond op off, 3)) (h1 : (pc : Int) + off = (tgt : Int)) (h2 : (zcond op a 0 → Ev Lx xs d y tgt L st M Q)) (h3 : (¬ zcond op a 0 → Ev Lx xs d y (pc + 3) L st M Q)) : Ev Lx xs d y pc L (.int a :: st) M Q := fun X h => h.2.2.2.2.2.2.2.2.2.2.2.1 _ _ _ _ _ _ _ _ _ _ _ h0 h1 (fun hh => h2 hh X h) (fun hh => h3 hh X h)
theorem ev_goto {d : Nat} {y : zY} {pc : Nat} {L : Nat → Value} {st : List Value} {M : zM} {Q : zQ} {off : Int} {tgt : Nat} (h0 : decode y.2.1 pc = .ok (.goto off, 3)) (h1 : (pc : Int) + off = (tgt : Int)) (h2 : Ev Lx xs d y tgt L st M Q) : Ev Lx xs d y pc L st M Q := fun X h => h.2.2.2.2.2.2.2.2.2.2.2.2.1 _ _ _ _ _ _ _ _ _ h0 h1 (h2 X h)
theorem ev_tin {d : Nat} {y : zY} {pc : Nat} {L : Nat → Value} {st : List Value} {M : zM} {Q : zQ} {dflt : Int} {lo : Int} {hi : Int} {offs : Array Int} {len : Nat} {off : Int} {tgt : Nat} {a : Int32} (h0 : decode y.2.1 pc = .ok (.tableswitch dflt lo hi offs, len)) (h1 : ¬ a.toInt < lo) (h2 : ¬ hi < a.toInt) (h3 : offs[(a.toInt - lo).toNat]? = some off) (h4 : (pc : Int) + off = (tgt : Int)) (h5 : Ev Lx xs d y tgt L st M Q) : Ev Lx xs d y pc L (.int a :: st) M Q := fun X h => h.2.2.2.2.2.2.2.2.2.2.2.2.2.1 _ _ _ _ _ _ _ _ _ _ _ _ _ _ _ h0 h1 h2 h3 h4 (h5 X h)
theorem ev_tout {d : Nat} {y : zY} {pc : Nat} {L : Nat → Value} {st : List Value} {M : zM} {Q : zQ} {dflt : Int} {lo : Int} {hi : Int} {offs : Array Int} {len : Nat} {tgt : Nat} {a : Int32} (h0 : decode y.2.1 pc = .ok (.tableswitch dflt lo hi offs, len)) (h1 : (a.toInt < lo ∨ hi < a.toInt)) (h2 : (pc : Int) + dflt = (tgt : Int)) (h3 : Ev Lx xs d y tgt L st M Q) : Ev Lx xs d y pc L (.int a :: st) M Q := fun X h => h.2.2.2.2.2.2.2.2.2.2.2.2.2.2.1 _ _ _ _ _ _ _ _ _ _ _ _ _ _ h0 h1 h2 (h3 X h)
theorem ev_geti {d : Nat} {y : zY} {pc : Nat} {L : Nat → Value} {st : List Value} {M : zM} {Q : zQ} {idx : Nat} {o : Nat} {ci : Nat} {k : Nat} (h0 : decode y.2.1 pc = .ok (.getfield idx, 3)) (h1 : zFld y.1.cls idx ci k false) (h2 : zsh[o]? = some (.inr ci)) (h3 : Ev Lx xs d y (pc + 3) L (.int (M.1 o k) :: st) M Q) : Ev Lx xs d y pc L (.ref o :: st) M Q := fun X h => h.2.2.2.2.2.2.2.2.2.2.2.2.2.2.2.1 _ _ _ _ _ _ _ _ _ _ _ h0 h1 h2 (h3 X h)
theorem ev_getr {d : Nat} {y : zY} {pc : Nat} {L : Nat → Value} {st : List Value} {M : zM} {Q : zQ} {idx : Nat} {o : Nat} {ci : Nat} {k : Nat} (h0 : decode y.2.1 pc = .ok (.getfield idx, 3)) (h1 : zFld y.1.cls idx ci k true) (h2 : zsh[o]? = some (.inr ci)) (h3 : Ev Lx xs d y (pc + 3) L (.ref (M.2.1 o k) :: st) M Q) : Ev Lx xs d y pc L (.ref o :: st) M Q := fun X h => h.2.2.2.2.2.2.2.2.2.2.2.2.2.2.2.2.1 _ _ _ _ _ _ _ _ _ _ _ h0 h1 h2 (h3 X h)
theorem ev_puti {d : Nat} {y : zY} {pc : Nat} {L : Nat → Value} {st : List Value} {M : zM} {Q : zQ} {idx : Nat} {o : Nat} {ci : Nat} {k : Nat} {x : Int32} {ty : FieldType} (h0 : decode y.2.1 pc = .ok (.putfield idx, 3)) (h1 : zFld y.1.cls idx ci k false) (h2 : zFlw ci k ty) (h3 : zsh[o]? = some (.inr ci)) (h4 : narrow ty (.int x) = .int x) (h5 : fits ty (.int x) = true) (h6 : Ev Lx xs d y (pc + 3) L st (zI M o k x) Q) : Ev Lx xs d y pc L (.int x :: .ref o :: st) M Q := fun X h => h.2.2.2.2.2.2.2.2.2.2.2.2.2.2.2.2.2.1 _ _ _ _ _ _ _ _ _ _ _ _ _ h0 h1 h2 h3 h4 h5 (h6 X h)
theorem ev_putr {d : Nat} {y : zY} {pc : Nat} {L : Nat → Value} {st : List Value} {M : zM} {Q : zQ} {idx : Nat} {o : Nat} {ci : Nat} {k : Nat} {x : Nat} {C : String} (h0 : decode y.2.1 pc = .ok (.putfield idx, 3)) (h1 : zFld y.1.cls idx ci k true) (h2 : zFlw ci k (.object C)) (h3 : zsh[o]? = some (.inr ci)) (h4 : Ev Lx xs d y (pc + 3) L st (zP M o k x) Q) : Ev Lx xs d y pc L (.ref x :: .ref o :: st) M Q := fun X h => h.2.2.2.2.2.2.2.2.2.2.2.2.2.2.2.2.2.2.1 _ _ _ _ _ _ _ _ _ _ _ _ _ h0 h1 h2 h3 (h4 X h)
theorem ev_ald {d : Nat} {y : zY} {pc : Nat} {L : Nat → Value} {st : List Value} {M : zM} {Q : zQ} {ins : Instr} {t : Nat} {o : Nat} {n : Nat} {i : Int32} (h0 : decode y.2.1 pc = .ok (ins, 1)) (h1 : zld ins = some t) (h2 : zsh[o]? = some (.inl (t, n))) (h3 : vp_in i n) (h4 : Ev Lx xs d y (pc + 1) L (.int (M.1 o i.toNatClampNeg) :: st) M Q) : Ev Lx xs d y pc L (.int i :: .ref o :: st) M Q := fun X h => h.2.2.2.2.2.2.2.2.2.2.2.2.2.2.2.2.2.2.2.1 _ _ _ _ _ _ _ _ _ _ _ _ h0 h1 h2 h3 (h4 X h)
theorem ev_ast {d : Nat} {y : zY} {pc : Nat} {L : Nat → Value} {st : List Value} {M : zM} {Q : zQ} {ins : Instr} {t : Nat} {o : Nat} {n : Nat} {i : Int32} {x : Int32} (h0 : decode y.2.1 pc = .ok (ins, 1)) (h1 : zst ins = some t) (h2 : zsh[o]? = some (.inl (t, n))) (h3 : vp_in i n) (h4 : Ev Lx xs d y (pc + 1) L st (zI M o i.toNatClampNeg (znr t x)) Q) : Ev Lx xs d y pc L (.int x :: .int i :: .ref o :: st) M Q := fun X h => h.2.2.2.2.2.2.2.2.2.2.2.2.2.2.2.2.2.2.2.2.1 _ _ _ _ _ _ _ _ _ _ _ _ _ h0 h1 h2 h3 (h4 X h)
theorem ev_alen {d : Nat} {y : zY} {pc : Nat} {L : Nat → Value} {st : List Value} {M : zM} {Q : zQ} {t : Nat} {o : Nat} {n : Nat} (h0 : decode y.2.1 pc = .ok (.arraylength, 1)) (h1 : zsh[o]? = some (.inl (t, n))) (h2 : Ev Lx xs d y (pc + 1) L (.int (nI n) :: st) M Q) : Ev Lx xs d y pc L (.ref o :: st) M Q := fun X h => h.2.2.2.2.2.2.2.2.2.2.2.2.2.2.2.2.2.2.2.2.2.1 _ _ _ _ _ _ _ _ _ _ h0 h1 (h2 X h)
theorem ev_lald {d : Nat} {y : zY} {pc : Nat} {L : Nat → Value} {st : List Value} {M : zM} {Q : zQ} {o : Nat} {i : Int32} (h0 : decode y.2.1 pc = .ok (.laload, 1)) (h1 : zsh[o]? = some (.inl (3, 1))) (h2 : vp_in i 1) (h3 : Ev Lx xs d y (pc + 1) L (.long M.2.2 :: st) M Q) : Ev Lx xs d y pc L (.int i :: .ref o :: st) M Q := fun X h => h.2.2.2.2.2.2.2.2.2.2.2.2.2.2.2.2.2.2.2.2.2.2.1 _ _ _ _ _ _ _ _ _ h0 h1 h2 (h3 X h)
theorem ev_last {d : Nat} {y : zY} {pc : Nat} {L : Nat → Value} {st : List Value} {M : zM} {Q : zQ} {o : Nat} {i : Int32} {x : Int64} (h0 : decode y.2.1 pc = .ok (.lastore, 1)) (h1 : zsh[o]? = some (.inl (3, 1))) (h2 : vp_in i 1) (h3 : Ev Lx xs d y (pc + 1) L st (zJ M x) Q) : Ev Lx xs d y pc L (.long x :: .int i :: .ref o :: st) M Q := fun X h => h.2.2.2.2.2.2.2.2.2.2.2.2.2.2.2.2.2.2.2.2.2.2.2.1 _ _ _ _ _ _ _ _ _ _ h0 h1 h2 (h3 X h)
theorem ev_i2l {d : Nat} {y : zY} {pc : Nat} {L : Nat → Value} {st : List Value} {M : zM} {Q : zQ} {x : Int32} (h0 : decode y.2.1 pc = .ok (.i2l, 1)) (h1 : Ev Lx xs d y (pc + 1) L (.long x.toInt64 :: st) M Q) : Ev Lx xs d y pc L (.int x :: st) M Q := fun X h => h.2.2.2.2.2.2.2.2.2.2.2.2.2.2.2.2.2.2.2.2.2.2.2.2.1 _ _ _ _ _ _ _ _ h0 (h1 X h)
theorem ev_lcmp {d : Nat} {y : zY} {pc : Nat} {L : Nat → Value} {st : List Value} {M : zM} {Q : zQ} {a b : Int64} (h0 : decode y.2.1 pc = .ok (.lcmp, 1)) (h1 : Ev Lx xs d y (pc + 1) L (.int (lg_cmp a b) :: st) M Q) : Ev Lx xs d y pc L (.long b :: .long a :: st) M Q := fun X h => h.2.2.2.2.2.2.2.2.2.2.2.2.2.2.2.2.2.2.2.2.2.2.2.2.2.1 _ _ _ _ _ _ _ _ _ h0 (h1 X h)
theorem ev_sld {d : Nat} {y : zY} {pc : Nat} {L : Nat → Value} {st : List Value} {M : zM} {Q : zQ} {i : Int32} (h0 : decode y.2.1 pc = .ok (.iaload, 1)) (h1 : vp_in i Lx) (h2 : Ev Lx xs d y (pc + 1) L (.int (xs i.toNatClampNeg) :: st) M Q) : Ev Lx xs d y pc L (.int i :: .ref 1000 :: st) M Q := fun X h => h.2.2.2.2.2.2.2.2.2.2.2.2.2.2.2.2.2.2.2.2.2.2.2.2.2.2.1 _ _ _ _ _ _ _ _ h0 h1 (h2 X h)
theorem ev_slen {d : Nat} {y : zY} {pc : Nat} {L : Nat → Value} {st : List Value} {M : zM} {Q : zQ} (h0 : decode y.2.1 pc = .ok (.arraylength, 1)) (h1 : Ev Lx xs d y (pc + 1) L (.int (nI Lx) :: st) M Q) : Ev Lx xs d y pc L (.ref 1000 :: st) M Q := fun X h => h.2.2.2.2.2.2.2.2.2.2.2.2.2.2.2.2.2.2.2.2.2.2.2.2.2.2.2.1 _ _ _ _ _ _ _ h0 (h1 X h)
theorem ev_copy {d : Nat} {y : zY} {pc : Nat} {L : Nat → Value} {st : List Value} {M : zM} {Q : zQ} {idx : Nat} {t : Nat} {o : Nat} {n : Nat} {o' : Nat} {n' : Nat} {sp : Nat} {dp : Nat} {k : Nat} (h0 : decode y.2.1 pc = .ok (.invokestatic idx, 3)) (h1 : Jvm.Cond.methodLink y.1.cls idx arraycopyName ∈ zT) (h2 : zsh[o]? = some (.inl (t, n))) (h3 : zsh[o']? = some (.inl (t, n'))) (h4 : (t = 0 ∨ t = 1)) (h5 : sp + k ≤ n) (h6 : dp + k ≤ n') (h7 : (∀ i, i < k → fits (ztt t) (.int (M.1 o (sp + i))) = true)) (h8 : zcat st ≤ 8) (h9 : Ev Lx xs (d + 1) y (pc + 3) L st (zCp M o o' sp dp k) Q) : Ev Lx xs (d + 1) y pc L (.int (nI k) :: .int (nI dp) :: .ref o' :: .int (nI sp) :: .ref o :: st) M Q := fun X h => h.2.2.2.2.2.2.2.2.2.2.2.2.2.2.2.2.2.2.2.2.2.2.2.2.2.2.2.2.1 _ _ _ _ _ _ _ _ _ _ _ _ _ _ _ _ h0 h1 h2 h3 h4 h5 h6 h7 h8 (h9 X h)
theorem ev_max {d : Nat} {y : zY} {pc : Nat} {L : Nat → Value} {st : List Value} {M : zM} {Q : zQ} {idx : Nat} {a : Int32} {b : Int32} (h0 : decode y.2.1 pc = .ok (.invokestatic idx, 3)) (h1 : Jvm.Cond.methodLink y.1.cls idx Lib.Math.max.name ∈ zT) (h2 : zcat st ≤ 8) (h3 : Ev Lx xs (d + 1) y (pc + 3) L (.int (if a < b then b else a) :: st) M Q) : Ev Lx xs (d + 1) y pc L (.int b :: .int a :: st) M Q := fun X h => h.2.2.2.2.2.2.2.2.2.2.2.2.2.2.2.2.2.2.2.2.2.2.2.2.2.2.2.2.2.1 _ _ _ _ _ _ _ _ _ _ h0 h1 h2 (h3 X h)
theorem ev_min {d : Nat} {y : zY} {pc : Nat} {L : Nat → Value} {st : List Value} {M : zM} {Q : zQ} {idx : Nat} {a : Int32} {b : Int32} (h0 : decode y.2.1 pc = .ok (.invokestatic idx, 3)) (h1 : Jvm.Cond.methodLink y.1.cls idx Lib.Math.min.name ∈ zT) (h2 : zcat st ≤ 8) (h3 : Ev Lx xs (d + 1) y (pc + 3) L (.int (if b < a then b else a) :: st) M Q) : Ev Lx xs (d + 1) y pc L (.int b :: .int a :: st) M Q := fun X h => h.2.2.2.2.2.2.2.2.2.2.2.2.2.2.2.2.2.2.2.2.2.2.2.2.2.2.2.2.2.2.1 _ _ _ _ _ _ _ _ _ _ h0 h1 h2 (h3 X h)
theorem ev_ldcS {d : Nat} {y : zY} {pc : Nat} {L : Nat → Value} {st : List Value} {M : zM} {Q : zQ} (h0 : decode y.2.1 pc = .ok (.ldc zsi, 2)) (h1 : y.1.cls = zso) (h2 : Ev Lx xs d y (pc + 2) L (.ref 1001 :: st) M Q) : Ev Lx xs d y pc L st M Q := fun X h => h.2.2.2.2.2.2.2.2.2.2.2.2.2.2.2.2.2.2.2.2.2.2.2.2.2.2.2.2.2.2.2.1 _ _ _ _ _ _ _ h0 h1 (h2 X h)
theorem ev_sval {d : Nat} {y : zY} {pc : Nat} {L : Nat → Value} {st : List Value} {M : zM} {Q : zQ} {idx : Nat} (h0 : decode y.2.1 pc = .ok (.getfield idx, 3)) (h1 : Jvm.Cond.fieldLink y.1.cls idx "java/lang/String" "value" "[B" ∈ zT) (h2 : Ev Lx xs d y (pc + 3) L (.ref 1002 :: st) M Q) : Ev Lx xs d y pc L (.ref 1001 :: st) M Q := fun X h => h.2.2.2.2.2.2.2.2.2.2.2.2.2.2.2.2.2.2.2.2.2.2.2.2.2.2.2.2.2.2.2.2.1 _ _ _ _ _ _ _ _ h0 h1 (h2 X h)
theorem ev_scod {d : Nat} {y : zY} {pc : Nat} {L : Nat → Value} {st : List Value} {M : zM} {Q : zQ} {idx : Nat} (h0 : decode y.2.1 pc = .ok (.getfield idx, 3)) (h1 : Jvm.Cond.fieldLink y.1.cls idx "java/lang/String" "coder" "B" ∈ zT) (h2 : Ev Lx xs d y (pc + 3) L (.int 0 :: st) M Q) : Ev Lx xs d y pc L (.ref 1001 :: st) M Q := fun X h => h.2.2.2.2.2.2.2.2.2.2.2.2.2.2.2.2.2.2.2.2.2.2.2.2.2.2.2.2.2.2.2.2.2.1 _ _ _ _ _ _ _ _ h0 h1 (h2 X h)
theorem ev_scmp {d : Nat} {y : zY} {pc : Nat} {L : Nat → Value} {st : List Value} {M : zM} {Q : zQ} {idx : Nat} (h0 : decode y.2.1 pc = .ok (.getstatic idx, 3)) (h1 : Jvm.Cond.fieldLink y.1.cls idx "java/lang/String" "COMPACT_STRINGS" "Z" ∈ zT) (h2 : Ev Lx xs d y (pc + 3) L (.int 1 :: st) M Q) : Ev Lx xs d y pc L st M Q := fun X h => h.2.2.2.2.2.2.2.2.2.2.2.2.2.2.2.2.2.2.2.2.2.2.2.2.2.2.2.2.2.2.2.2.2.2.1 _ _ _ _ _ _ _ _ h0 h1 (h2 X h)
theorem ev_sbld {d : Nat} {y : zY} {pc : Nat} {L : Nat → Value} {st : List Value} {M : zM} {Q : zQ} {i : Int32} (h0 : decode y.2.1 pc = .ok (.baload, 1)) (h1 : vp_in i zsn) (h2 : Ev Lx xs d y (pc + 1) L (.int (zsb.getD i.toNatClampNeg 0) :: st) M Q) : Ev Lx xs d y pc L (.int i :: .ref 1002 :: st) M Q := fun X h => h.2.2.2.2.2.2.2.2.2.2.2.2.2.2.2.2.2.2.2.2.2.2.2.2.2.2.2.2.2.2.2.2.2.2.2.1 _ _ _ _ _ _ _ _ h0 h1 (h2 X h)
theorem ev_sblen {d : Nat} {y : zY} {pc : Nat} {L : Nat → Value} {st : List Value} {M : zM} {Q : zQ} (h0 : decode y.2.1 pc = .ok (.arraylength, 1)) (h1 : Ev Lx xs d y (pc + 1) L (.int (nI zsn) :: st) M Q) : Ev Lx xs d y pc L (.ref 1002 :: st) M Q := fun X h => h.2.2.2.2.2.2.2.2.2.2.2.2.2.2.2.2.2.2.2.2.2.2.2.2.2.2.2.2.2.2.2.2.2.2.2.2.1 _ _ _ _ _ _ _ h0 (h1 X h)
theorem ev_callS {d : Nat} {y : zY} {pc : Nat} {L : Nat → Value} {st : List Value} {M : zM} {Q : zQ} {idx : Nat} {k : zY} {As : List Value} {R : Option Int32 → zM → Prop} (h0 : decode y.2.1 pc = .ok (.invokestatic idx, 3)) (h1 : zLkS y.1.cls idx k As.length) (h2 : (∀ v ∈ As, v.category = 1)) (h3 : As.length ≤ k.2.2.1) (h4 : zcat st ≤ 8) (h5 : Ev Lx xs d k 0 (zarg As) [] M (fun pc' _ st' M' => ∃ o, zEnd k pc' st' o ∧ R o M')) (h6 : (∀ o M', R o M' → Ev Lx xs (d + 1) y (pc + 3) L (zpush o st) M' Q)) : Ev Lx xs (d + 1) y pc L (As.reverse ++ st) M Q := fun X h => h.2.2.2.2.2.2.2.2.2.2.2.2.2.2.2.2.2.2.2.2.2.2.2.2.2.2.2.2.2.2.2.2.2.2.2.2.2.1 _ _ _ _ _ _ _ _ _ _ _ h0 h1 h2 h3 h4 (h5 X h) (fun o M' hh => h6 o M' hh X h)
theorem ev_callV {d : Nat} {y : zY} {pc : Nat} {L : Nat → Value} {st : List Value} {M : zM} {Q : zQ} {idx : Nat} {k : zY} {b : Nat} {As : List Value} {R : Option Int32 → zM → Prop} (h0 : decode y.2.1 pc = .ok (.invokevirtual idx, 3)) (h1 : zLkV y.1.cls idx k As.length) (h2 : zrec b k.1.cls) (h3 : (∀ v ∈ As, v.category = 1)) (h4 : As.length + 1 ≤ k.2.2.1) (h5 : zcat st ≤ 8) (h6 : Ev Lx xs d k 0 (zarg (.ref b :: As)) [] M (fun pc' _ st' M' => ∃ o, zEnd k pc' st' o ∧ R o M')) (h7 : (∀ o M', R o M' → Ev Lx xs (d + 1) y (pc + 3) L (zpush o st) M' Q)) : Ev Lx xs (d + 1) y pc L (As.reverse ++ .ref b :: st) M Q := fun X h => h.2.2.2.2.2.2.2.2.2.2.2.2.2.2.2.2.2.2.2.2.2.2.2.2.2.2.2.2.2.2.2.2.2.2.2.2.2.2 _ _ _ _ _ _ _ _ _ _ _ _ h0 h1 h2 h3 h4 h5 (h6 X h) (fun o M' hh => h7 o M' hh X h)
end
