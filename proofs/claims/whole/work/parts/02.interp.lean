/-! A pure picture of the machine: cells at numbered places, frames as lists; 'zrun' runs a method's bytes over it -/
abbrev zPC : Type := (Nat × (Nat → Int32)) ⊕ ((Nat × Nat × (Nat → Option Nat)) ⊕ (Nat × List Value))
abbrev zMem : Type := Nat × Nat × (Nat → Option zPC)
def mget (M : zMem) (a : Nat) : Option zPC := M.2.2 a
def mset (M : zMem) (a : Nat) (c : zPC) : zMem := (M.1, M.2.1, fun b => if b = a then some c else M.2.2 b)
def mnew (M : zMem) (z : Nat) (c : zPC) : zMem := (M.1 + 1, M.2.1 + z, fun b => if b = M.1 + 1 then some c else M.2.2 b)
theorem mget_set (M : zMem) (a b : Nat) (c : zPC) : mget (mset M a c) b = if b = a then some c else mget M b := rfl
theorem mget_new (M : zMem) (z b : Nat) (c : zPC) : mget (mnew M z c) b = if b = M.1 + 1 then some c else mget M b := rfl
theorem mset_1 (M : zMem) (a : Nat) (c : zPC) : (mset M a c).1 = M.1 := rfl
theorem mset_2 (M : zMem) (a : Nat) (c : zPC) : (mset M a c).2.1 = M.2.1 := rfl
theorem mnew_1 (M : zMem) (z : Nat) (c : zPC) : (mnew M z c).1 = M.1 + 1 := rfl
theorem mnew_2 (M : zMem) (z : Nat) (c : zPC) : (mnew M z c).2.1 = M.2.1 + z := rfl
abbrev zLS : Type := List (Option Value)
abbrev zC : Type := Nat × Nat × zLS × List Value × zMem
abbrev zR : Type := Option Value × zMem
abbrev zA : Type := Option (zR ⊕ (zC ⊕ (zC × (zR → zC))))
def zJ (mi pc : Nat) (ls : zLS) (st : List Value) (M : zMem) : zA := some (.inr (.inl (mi, pc, ls, st, M)))
-- locals
def zclr (ls : zLS) (k : Nat) : zLS := match k with
  | 0 => ls
  | j + 1 => match ls[j]? with
    | some (some v) => if v.category = 2 then ls.set j none else ls
    | _ => ls
def zs1 (mi : Nat) (ls : zLS) (k : Nat) (v : Value) : zLS := (if zhl mi = true then zclr ls k else ls).set k (some v)
def zs2 (ls : zLS) (k : Nat) (v : Value) : zLS := ((zclr ls k).set k (some v)).set (k + 1) none
def zent (n : Nat) (vs : List Value) : zLS :=
  (vs.flatMap fun v => if v.category = 2 then [some v, none] else [some v]) ++ List.replicate (n - (vs.flatMap fun v => if v.category = 2 then [some v, none] else [some v]).length) none
def zkI : Value → Bool
  | .int _ => true
  | _ => false
def zkL : Value → Bool
  | .long _ => true
  | _ => false
def zkA : Value → Bool
  | .ref _ => true
  | .null => true
  | _ => false
def zld (q : Value → Bool) (k n mi pc : Nat) (ls : zLS) (st : List Value) (M : zMem) : zA := match ls[k]? with
  | some (some v) => if q v = true then zJ mi (pc + n) ls (v :: st) M else none
  | _ => none
def zst1 (q : Value → Bool) (k n mi pc : Nat) (ls : zLS) (st : List Value) (M : zMem) : zA := match st with
  | v :: st => if q v = true ∧ k < ls.length then zJ mi (pc + n) (zs1 mi ls k v) st M else none
  | [] => none
def zst2 (k n mi pc : Nat) (ls : zLS) (st : List Value) (M : zMem) : zA := match st with
  | v :: st => if zkL v = true ∧ k + 1 < ls.length ∧ zhl mi = true then zJ mi (pc + n) (zs2 ls k v) st M else none
  | [] => none
-- ints
def zbi (f : Int32 → Int32 → Int32) (mi pc : Nat) (ls : zLS) (st : List Value) (M : zMem) : zA := match st with
  | .int y :: .int x :: st => zJ mi (pc + 1) ls (.int (f x y) :: st) M
  | _ => none
def zdi (f : Int32 → Int32 → Int32) (mi pc : Nat) (ls : zLS) (st : List Value) (M : zMem) : zA := match st with
  | .int y :: .int x :: st => if y = 0 then none else zJ mi (pc + 1) ls (.int (f x y) :: st) M
  | _ => none
def zbl (f : Int64 → Int64 → Int64) (mi pc : Nat) (ls : zLS) (st : List Value) (M : zMem) : zA := match st with
  | .long y :: .long x :: st => zJ mi (pc + 1) ls (.long (f x y) :: st) M
  | _ => none
def zdl (f : Int64 → Int64 → Int64) (mi pc : Nat) (ls : zLS) (st : List Value) (M : zMem) : zA := match st with
  | .long y :: .long x :: st => if y = 0 then none else zJ mi (pc + 1) ls (.long (f x y) :: st) M
  | _ => none
def zui (f : Int32 → Value) (mi pc : Nat) (ls : zLS) (st : List Value) (M : zMem) : zA := match st with
  | .int x :: st => zJ mi (pc + 1) ls (f x :: st) M
  | _ => none
-- branches
def ztg (pc : Nat) (off : Int) : Option Nat := if 0 ≤ (pc : Int) + off then some ((pc : Int) + off).toNat else none
def zbr (c : Jvm.ClassFile.Cond) (x y : Int32) (t f : Nat) : Nat := match c with
  | .eq => if x = y then t else f
  | .ne => if x = y then f else t
  | .lt => if x < y then t else f
  | .ge => if y ≤ x then t else f
  | .gt => if y < x then t else f
  | .le => if x ≤ y then t else f
-- cells
def zfd (c : Option zPC) (ci j : Nat) : Option Value := match c with
  | some (.inr (.inr (k, vs))) => if k = ci then vs[j]? else none
  | _ => none
/-- may a field of this type take this value? -/
def zfit (ci j : Nat) (v : Value) : Bool := match parseFieldDescriptor ((zT ci) j).2.2.1, v with
  | some .int, .int _ => true
  | some .boolean, .int x => x == 0 || x == 1
  | some (.object _), .ref _ => true
  | some (.object _), .null => true
  | some (.array _), .ref _ => true
  | some (.array _), .null => true
  | _, _ => false
def zpf (c : Option zPC) (ci j : Nat) (v : Value) : Option zPC := match c with
  | some (.inr (.inr (k, vs))) => if k = ci ∧ j < vs.length ∧ zfit ci j v = true then some (.inr (.inr (k, vs.set j v))) else none
  | _ => none
def zia (c : Option zPC) (i : Int32) : Option Int32 := match c with
  | some (.inl (n, f)) => if i < 0 ∨ n ≤ i.toNatClampNeg then none else some (f i.toNatClampNeg)
  | _ => none
def zis (c : Option zPC) (i x : Int32) : Option zPC := match c with
  | some (.inl (n, f)) => if i < 0 ∨ n ≤ i.toNatClampNeg then none else some (.inl (n, upd f i.toNatClampNeg x))
  | _ => none
def zal (c : Option zPC) : Option Int32 := match c with
  | some (.inl (n, _)) => some (Int32.ofNat n)
  | some (.inr (.inl (_, n, _))) => some (Int32.ofNat n)
  | _ => none
def zaa (c : Option zPC) (i : Int32) : Option Value := match c with
  | some (.inr (.inl (_, n, f))) => if i < 0 ∨ n ≤ i.toNatClampNeg then none else some (va_rf (f i.toNatClampNeg))
  | _ => none
/-- the place of an object's kind; none: not an object -/
def zoc (c : Option zPC) : Option Nat := match c with
  | some (.inr (.inr (k, _))) => some k
  | _ => none
def zas (c : Option zPC) (i : Int32) (v : Nat) (d : Option zPC) : Option zPC := match c with
  | some (.inr (.inl (k, n, f))) => if i < 0 ∨ n ≤ i.toNatClampNeg then none else if zoc d = some k ∧ (k = 3 ∨ k = 4) then some (.inr (.inl (k, n, va_up f i.toNatClampNeg (some v)))) else none
  | _ => none
def zcp (c d : Option zPC) (sp dp n : Int32) : Option zPC := match c, d with
  | some (.inl (n0, f)), some (.inl (n1, g)) => if sp < 0 ∨ dp < 0 ∨ n < 0 ∨ n0 < sp.toNatClampNeg + n.toNatClampNeg ∨ n1 < dp.toNatClampNeg + n.toNatClampNeg then none else some (.inl (n1, va_cpy f g sp.toNatClampNeg dp.toNatClampNeg n.toNatClampNeg))
  | _, _ => none
def zdfL : List (List Value) := (List.range 9).map fun ci => (List.range (zN ci)).map fun j => match parseFieldDescriptor ((zT ci) j).2.2.1 with
  | some t => defaultValue t
  | none => .null
def zdf (ci : Nat) : List Value := zdfL.getD ci []
-- calls
def zcat (st : List Value) : Nat := (st.map fun v => v.category).sum
def zok (mi mj : Nat) (As rest : List Value) : Bool :=
  decide (zcat rest ≤ 8) && decide (zfr mj + 1 ≤ zfr mi) && decide (8 + (znL mj + 11) + zlo mj ≤ zlo mi) && decide ((lg_sl As).length ≤ znL mj) && (zhl mj || As.all fun v => decide (v.category = 1))
def zcall (mi mj pc : Nat) (ls : zLS) (As rest : List Value) (M : zMem) : zA :=
  if zok mi mj As rest = true then some (.inr (.inr ((mj, 0, zent (znL mj) As, [], M), fun r => (mi, pc + 3, ls, r.1.toList ++ rest, r.2)))) else none
def zkd (o i : Nat) : Option Nat := (zclT.find? (fun e => e.1 == o && e.2.1 == i)).map (fun e => e.2.2.2.1)
def zretv (mi : Nat) (i : Instr) (st : List Value) : Option (Option Value) := match i, zrt mi, st with
  | .ireturn, some .int, [.int v] => some (some (.int v))
  | .ireturn, some .boolean, [.int v] => if v = 0 ∨ v = 1 then some (some (.int v)) else none
  | .lreturn, some .long, [.long v] => some (some (.long v))
  | .areturn, some (.object _), [.ref a] => some (some (.ref a))
  | .areturn, some (.object _), [.null] => some (some .null)
  | .return_, none, [] => some none
  | _, _, _ => none
def zinv (mi pc k : Nat) (ls : zLS) (st : List Value) (M : zMem) : zA := match zcl (zown mi) k with
  | some mj => if zkd (zown mi) k = some 0 then (match st.drop (znp mj) with
      | .ref b :: rest => if zoc (mget M b) = some (zown mj) ∧ (st.take (znp mj)).length = znp mj ∧ b ≠ 0 then zcall mi mj pc ls (.ref b :: (st.take (znp mj)).reverse) rest M else none
      | _ => none) else none
  | none => none
def zins (mi pc k : Nat) (ls : zLS) (st : List Value) (M : zMem) : zA :=
  if zac (zown mi) k = true then (match st with
    | .int n :: .int dp :: .ref a :: .int sp :: .ref a0 :: rest => if a0 = 0 ∨ a = 0 ∨ 8 < zcat rest ∨ zlo mi < 60 ∨ zfr mi < 1 then none else (match zcp (mget M a0) (mget M a) sp dp n with
      | some c => zJ mi (pc + 3) ls rest (mset M a c)
      | none => none)
    | _ => none)
  else match zmm (zown mi) k with
  | some w => (match st with
    | .int y :: .int x :: rest => if 8 < zcat rest ∨ zlo mi < 60 ∨ zfr mi < 1 then none else zJ mi (pc + 3) ls (.int (if w = 0 then (if x < y then y else x) else (if y < x then y else x)) :: rest) M
    | _ => none)
  | none => match zcl (zown mi) k with
    | some mj => if zkd (zown mi) k = some 1 then (if (st.take (znp mj)).length = znp mj then zcall mi mj pc ls (st.take (znp mj)).reverse (st.drop (znp mj)) M else none) else none
    | none => none
def zinp (mi pc k : Nat) (ls : zLS) (st : List Value) (M : zMem) : zA :=
  if zoi (zown mi) k = true then (match st with
    | .ref _ :: rest => if 8 < zcat rest ∨ zlo mi < 20 ∨ zfr mi < 1 then none else zJ mi (pc + 3) ls rest M
    | _ => none)
  else match zcl (zown mi) k with
    | some mj => if zkd (zown mi) k = some 2 then (match st.drop (znp mj) with
      | .ref b :: rest => if (st.take (znp mj)).length = znp mj then zcall mi mj pc ls (.ref b :: (st.take (znp mj)).reverse) rest M else none
      | _ => none) else none
    | none => none
/-- how long an instruction is; 0: any length -/
def zlen : Instr → Nat
  | .bipush _ => 2 | .iload _ => 2 | .lload _ => 2 | .aload _ => 2 | .istore _ => 2 | .lstore _ => 2 | .astore _ => 2 | .newarray _ => 2
  | .sipush _ => 3 | .ldc_w _ => 3 | .ldc2_w _ => 3 | .iinc _ _ => 3 | .goto _ => 3 | .ifCond _ _ => 3 | .if_icmp _ _ => 3 | .ifnull _ => 3 | .ifnonnull _ => 3
  | .getfield _ => 3 | .putfield _ => 3 | .new _ => 3 | .anewarray _ => 3 | .invokevirtual _ => 3 | .invokestatic _ => 3 | .invokespecial _ => 3
  | .tableswitch _ _ _ _ => 0
  | _ => 1
def sti (i : Instr) (mi pc : Nat) (ls : zLS) (st : List Value) (M : zMem) : zA := match i with
  | .aconst_null => zJ mi (pc + 1) ls (.null :: st) M
  | .iconst n => zJ mi (pc + 1) ls (.int (Int32.ofInt n) :: st) M
  | .lconst n => zJ mi (pc + 1) ls (.long (Int64.ofNat (n : Nat)) :: st) M
  | .bipush n => zJ mi (pc + 2) ls (.int (Int8.ofInt n).toInt32 :: st) M
  | .sipush n => zJ mi (pc + 3) ls (.int (Int16.ofInt n).toInt32 :: st) M
  | .ldc_w k => match zcI (zown mi) k with
    | some v => zJ mi (pc + 3) ls (.int v :: st) M
    | none => none
  | .ldc2_w k => match zcL (zown mi) k with
    | some v => zJ mi (pc + 3) ls (.long v :: st) M
    | none => none
  | .iload k => zld zkI k 2 mi pc ls st M
  | .iload_n k => zld zkI k 1 mi pc ls st M
  | .lload k => zld zkL k 2 mi pc ls st M
  | .lload_n k => zld zkL k 1 mi pc ls st M
  | .aload k => zld zkA k 2 mi pc ls st M
  | .aload_n k => zld zkA k 1 mi pc ls st M
  | .istore k => zst1 zkI k 2 mi pc ls st M
  | .istore_n k => zst1 zkI k 1 mi pc ls st M
  | .lstore k => zst2 k 2 mi pc ls st M
  | .lstore_n k => zst2 k 1 mi pc ls st M
  | .astore k => zst1 zkA k 2 mi pc ls st M
  | .astore_n k => zst1 zkA k 1 mi pc ls st M
  | .iinc k n => match ls[k]? with
    | some (some (.int x)) => zJ mi (pc + 3) (zs1 mi ls k (.int (x + Int32.ofInt n))) st M
    | _ => none
  | .iadd => zbi (fun x y => x + y) mi pc ls st M
  | .isub => zbi (fun x y => x - y) mi pc ls st M
  | .imul => zbi (fun x y => x * y) mi pc ls st M
  | .iand => zbi (fun x y => x &&& y) mi pc ls st M
  | .ior => zbi (fun x y => x ||| y) mi pc ls st M
  | .ixor => zbi (fun x y => x ^^^ y) mi pc ls st M
  | .ishl => zbi (fun x y => x <<< (y &&& 31)) mi pc ls st M
  | .ishr => zbi (fun x y => x >>> (y &&& 31)) mi pc ls st M
  | .iushr => zbi (fun x y => (x.toUInt32 >>> (y.toUInt32 &&& Int32.toUInt32 31)).toInt32) mi pc ls st M
  | .idiv => zdi (fun x y => x / y) mi pc ls st M
  | .irem => zdi (fun x y => x - x / y * y) mi pc ls st M
  | .ladd => zbl (fun x y => x + y) mi pc ls st M
  | .lsub => zbl (fun x y => x - y) mi pc ls st M
  | .lmul => zbl (fun x y => x * y) mi pc ls st M
  | .ldiv => zdl (fun x y => x / y) mi pc ls st M
  | .lrem => zdl (fun x y => x - x / y * y) mi pc ls st M
  | .i2l => zui (fun x => .long x.toInt64) mi pc ls st M
  | .i2b => zui (fun x => .int x.toInt8.toInt32) mi pc ls st M
  | .i2s => zui (fun x => .int x.toInt16.toInt32) mi pc ls st M
  | .lcmp => match st with
    | .long y :: .long x :: st => zJ mi (pc + 1) ls (.int (lg_cmp x y) :: st) M
    | _ => none
  | .dup => match st with
    | v :: st => if v.category = 1 then zJ mi (pc + 1) ls (v :: v :: st) M else none
    | [] => none
  | .pop => match st with
    | v :: st => if v.category = 1 then zJ mi (pc + 1) ls st M else none
    | [] => none
  | .dup2 => match st with
    | v :: w :: st => if v.category = 1 ∧ w.category = 1 then zJ mi (pc + 1) ls (v :: w :: v :: w :: st) M else none
    | _ => none
  | .goto off => match ztg pc off with
    | some t => zJ mi t ls st M
    | none => none
  | .ifCond c off => match ztg pc off, st with
    | some t, .int x :: st => zJ mi (zbr c x 0 t (pc + 3)) ls st M
    | _, _ => none
  | .if_icmp c off => match ztg pc off, st with
    | some t, .int y :: .int x :: st => zJ mi (zbr c x y t (pc + 3)) ls st M
    | _, _ => none
  | .ifnull off => match ztg pc off, st with
    | some t, .null :: st => zJ mi t ls st M
    | some _, .ref _ :: st => zJ mi (pc + 3) ls st M
    | _, _ => none
  | .ifnonnull off => match ztg pc off, st with
    | some _, .null :: st => zJ mi (pc + 3) ls st M
    | some t, .ref _ :: st => zJ mi t ls st M
    | _, _ => none
  | .tableswitch d lo hi offs => match st with
    | .int x :: st => if x.toInt < lo ∨ hi < x.toInt then (match ztg pc d with
        | some t => zJ mi t ls st M
        | none => none) else (match offs[(x.toInt - lo).toNat]? with
        | some off => (match ztg pc off with
          | some t => zJ mi t ls st M
          | none => none)
        | none => none)
    | _ => none
  | .getfield k => match zfl (zown mi) k, st with
    | some (ci, j), .ref a :: st => if a = 0 then none else (match zfd (mget M a) ci j with
      | some v => zJ mi (pc + 3) ls (v :: st) M
      | none => none)
    | _, _ => none
  | .putfield k => match zfl (zown mi) k, st with
    | some (ci, j), v :: .ref a :: st => if a = 0 then none else if ((zT ci) j).2.2.2 = true ∧ (zini mi = false ∨ ((zT ci) j).1 ≠ zcn (zown mi)) then none else (match zpf (mget M a) ci j v with
      | some c => zJ mi (pc + 3) ls st (mset M a c)
      | none => none)
    | _, _ => none
  | .iaload => match st with
    | .int i :: .ref a :: st => match zia (mget M a) i with
      | some x => zJ mi (pc + 1) ls (.int x :: st) M
      | none => none
    | _ => none
  | .iastore => match st with
    | .int x :: .int i :: .ref a :: st => if a = 0 then none else (match zis (mget M a) i x with
      | some c => zJ mi (pc + 1) ls st (mset M a c)
      | none => none)
    | _ => none
  | .arraylength => match st with
    | .ref a :: st => match zal (mget M a) with
      | some x => zJ mi (pc + 1) ls (.int x :: st) M
      | none => none
    | _ => none
  | .aaload => match st with
    | .int i :: .ref a :: st => if a = 0 then none else (match zaa (mget M a) i with
      | some v => zJ mi (pc + 1) ls (v :: st) M
      | none => none)
    | _ => none
  | .aastore => match st with
    | .ref v :: .int i :: .ref a :: st => if a = 0 ∨ v = 0 then none else (match zas (mget M a) i v (mget M v) with
      | some c => zJ mi (pc + 1) ls st (mset M a c)
      | none => none)
    | _ => none
  | .newarray .int => match st with
    | .int n :: st => if n < 0 ∨ 1000 < n.toNatClampNeg then none else zJ mi (pc + 2) ls (.ref (M.1 + 1) :: st) (mnew M n.toNatClampNeg (.inl (n.toNatClampNeg, fun _ => 0)))
    | _ => none
  | .anewarray k => match znc (zown mi) k, st with
    | some ci, .int n :: st => if n < 0 ∨ 1000 < n.toNatClampNeg ∨ ¬ (ci = 3 ∨ ci = 4) then none else zJ mi (pc + 3) ls (.ref (M.1 + 1) :: st) (mnew M n.toNatClampNeg (.inr (.inl (ci, n.toNatClampNeg, fun _ => none))))
    | _, _ => none
  | .new k => match znc (zown mi) k with
    | some ci => zJ mi (pc + 3) ls (.ref (M.1 + 1) :: st) (mnew M (zN ci) (.inr (.inr (ci, zdf ci))))
    | none => none
  | .invokevirtual k => zinv mi pc k ls st M
  | .invokestatic k => zins mi pc k ls st M
  | .invokespecial k => zinp mi pc k ls st M
  | i => match zretv mi i st with
    | some v => some (.inl (v, M))
    | none => none
def stp (c : zC) : zA := match decode (zbyt c.1) c.2.1 with
  | .ok (i, len) => if zlen i = len ∨ zlen i = 0 then sti i c.1 c.2.1 c.2.2.1 c.2.2.2.1 c.2.2.2.2 else none
  | _ => none
def zrun : Nat → zC → Option zR
  | 0, _ => none
  | f + 1, c => match stp c with
    | none => none
    | some (.inl r) => some r
    | some (.inr (.inl c')) => zrun f c'
    | some (.inr (.inr (c1, k))) => (zrun f c1).bind fun r => zrun f (k r)
theorem zrun_mono : ∀ (f : Nat) (c : zC) (r : zR), zrun f c = some r → zrun (f + 1) c = some r := by
  intro f
  induction f with
  | zero => intro c r h; cases h
  | succ f ih =>
    intro c r h
    rw [zrun] at h ⊢
    match hs : stp c with
    | none => rw [hs] at h; cases h
    | some (.inl r') => rw [hs] at h; exact h
    | some (.inr (.inl c')) => rw [hs] at h; exact ih c' r h
    | some (.inr (.inr (c1, k))) =>
      rw [hs] at h
      show (zrun (f + 1) c1).bind (fun r => zrun (f + 1) (k r)) = some r
      change (zrun f c1).bind (fun r => zrun f (k r)) = some r at h
      obtain ⟨r1, h1, h2⟩ := Option.bind_eq_some_iff.mp h
      rw [ih c1 r1 h1]
      exact ih _ r h2
theorem zrun_le {f g : Nat} (h : f ≤ g) {c : zC} {r : zR} (hr : zrun f c = some r) : zrun g c = some r := by
  induction h with
  | refl => exact hr
  | step _ ih => exact zrun_mono _ _ _ ih
theorem zrun_det {f g : Nat} {c : zC} {r r' : zR} (h : zrun f c = some r) (h' : zrun g c = some r') : r = r' := by
  have a := zrun_le (Nat.le_max_left f g) h
  have b := zrun_le (Nat.le_max_right f g) h'
  exact Option.some.inj (a.symm.trans b)
/-- what a run comes to; none: it never ends, or the picture has no step -/
noncomputable def ev (mi pc : Nat) (ls : zLS) (st : List Value) (M : zMem) : Option zR :=
  @dite _ (∃ r f, zrun f (mi, pc, ls, st, M) = some r) (Classical.propDecidable _) (fun h => some h.choose) (fun _ => none)
noncomputable def evc (c : zC) : Option zR := ev c.1 c.2.1 c.2.2.1 c.2.2.2.1 c.2.2.2.2
theorem evc_iff (c : zC) (r : zR) : evc c = some r ↔ ∃ f, zrun f c = some r := by
  unfold evc ev
  by_cases h : ∃ r f, zrun f (c.1, c.2.1, c.2.2.1, c.2.2.2.1, c.2.2.2.2) = some r
  · rw [dif_pos h]
    obtain ⟨f, hf⟩ := h.choose_spec
    constructor
    · intro e
      rw [← Option.some.inj e]
      exact ⟨f, hf⟩
    · rintro ⟨g, hg⟩
      exact congrArg some (zrun_det hf hg)
  · rw [dif_neg h]
    constructor
    · intro e; cases e
    · rintro ⟨g, hg⟩
      exact absurd ⟨r, g, hg⟩ h
theorem ev_iff {mi pc : Nat} {ls : zLS} {st : List Value} {M : zMem} {r : zR} : ev mi pc ls st M = some r ↔ ∃ f, zrun f (mi, pc, ls, st, M) = some r := evc_iff (mi, pc, ls, st, M) r
theorem ev_jump {mi pc : Nat} {ls : zLS} {st : List Value} {M : zMem} {mi' pc' : Nat} {ls' : zLS} {st' : List Value} {M' : zMem} (h : stp (mi, pc, ls, st, M) = zJ mi' pc' ls' st' M') : ev mi pc ls st M = ev mi' pc' ls' st' M' := by
  apply Option.ext
  intro r
  rw [ev_iff, ev_iff]
  constructor
  · rintro ⟨f, hf⟩
    cases f with
    | zero => cases hf
    | succ f =>
      rw [zrun, h] at hf
      exact ⟨f, hf⟩
  · rintro ⟨f, hf⟩
    refine ⟨f + 1, ?_⟩
    rw [zrun, h]
    exact hf
theorem ev_ret {mi pc : Nat} {ls : zLS} {st : List Value} {M : zMem} {r : zR} (h : stp (mi, pc, ls, st, M) = some (.inl r)) : ev mi pc ls st M = some r := by
  rw [ev_iff]
  exact ⟨1, by rw [zrun, h]⟩
theorem ev_call {mi pc : Nat} {ls : zLS} {st : List Value} {M : zMem} {c1 : zC} {k : zR → zC} (h : stp (mi, pc, ls, st, M) = some (.inr (.inr (c1, k)))) : ev mi pc ls st M = (evc c1).bind fun r => evc (k r) := by
  apply Option.ext
  intro r
  rw [ev_iff, Option.bind_eq_some_iff]
  constructor
  · rintro ⟨f, hf⟩
    cases f with
    | zero => cases hf
    | succ f =>
      rw [zrun, h] at hf
      obtain ⟨r1, h1, h2⟩ := Option.bind_eq_some_iff.mp hf
      exact ⟨r1, (evc_iff _ _).mpr ⟨f, h1⟩, (evc_iff _ _).mpr ⟨f, h2⟩⟩
  · rintro ⟨r1, h1, h2⟩
    obtain ⟨f, h1⟩ := (evc_iff _ _).mp h1
    obtain ⟨g, h2⟩ := (evc_iff _ _).mp h2
    refine ⟨max f g + 1, ?_⟩
    rw [zrun, h]
    show (zrun (max f g) c1).bind (fun r => zrun (max f g) (k r)) = some r
    rw [zrun_le (Nat.le_max_left f g) h1]
    exact zrun_le (Nat.le_max_right f g) h2
