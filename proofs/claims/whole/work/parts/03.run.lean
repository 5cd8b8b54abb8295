/-- the locals: read and written -/
def tf_isz : Nat → Nat → Bool
  | 7, 6 => true
  | 8, 3 => true
  | _, _ => false
theorem tf_isz_ok : ∀ ci, ci < 9 → ∀ k, k < (tf_cl ci).2.2 → tf_isr ci k = false → ((tf_cl ci).2.1 k).2.2.2 = false ∧ tf_ty ci k = (if tf_isz ci k = true then FieldType.boolean else .int) := by decide +kernel
def tf_room (st : List Value) : Bool := Nat.ble ((st.map fun v => v.category).sum) 8
/-- one instruction that goes on to the next one: locals, stack, numbers, what must hold -/
def tf_op (G : tf_G) (F : tf_F) (ls : List (Option Value)) (S : tf_Sg) (v : Int32) : Instr → List Value → Option (List (Option Value) × List Value × tf_Sg × Option Prop)
  | .iconst _, st => some (ls, .int v :: st, S, none)
  | .bipush _, st => some (ls, .int v :: st, S, none)
  | .sipush _, st => some (ls, .int v :: st, S, none)
  | .iload n, st => match ls.getD n none with
    | some (.int x) => some (ls, .int x :: st, S, none)
    | _ => none
  | .iload_n n, st => match ls.getD n.val none with
    | some (.int x) => some (ls, .int x :: st, S, none)
    | _ => none
  | .aload n, st => match ls.getD n none with
    | some (.ref x) => some (ls, .ref x :: st, S, none)
    | _ => none
  | .aload_n n, st => match ls.getD n.val none with
    | some (.ref x) => some (ls, .ref x :: st, S, none)
    | _ => none
  | .lload_n n, st => match ls.getD n.val none with
    | some (.long x) => some (ls, .long x :: st, S, none)
    | _ => none
  | .istore n, .int x :: st => match Nat.blt n ls.length, (match n with | 0 => none | k + 1 => ls.getD k none) with
    | true, some (.long _) => none
    | true, some (.double _) => none
    | true, _ => some (ls.set n (some (.int x)), st, S, none)
    | _, _ => none
  | .istore_n n, .int x :: st => match Nat.blt n.val ls.length, (match n.val with | 0 => none | k + 1 => ls.getD k none) with
    | true, some (.long _) => none
    | true, some (.double _) => none
    | true, _ => some (ls.set n.val (some (.int x)), st, S, none)
    | _, _ => none
  | .astore_n n, .ref x :: st => match Nat.blt n.val ls.length, (match n.val with | 0 => none | k + 1 => ls.getD k none) with
    | true, some (.long _) => none
    | true, some (.double _) => none
    | true, _ => some (ls.set n.val (some (.ref x)), st, S, none)
    | _, _ => none
  | .iinc n _, st => match Nat.blt n ls.length, ls.getD n none, (match n with | 0 => none | k + 1 => ls.getD k none) with
    | true, some (.int _), some (.long _) => none
    | true, some (.int _), some (.double _) => none
    | true, some (.int x), _ => some (ls.set n (some (.int (x + v))), st, S, none)
    | _, _, _ => none
  | .iadd, .int y :: .int x :: st => some (ls, .int (x + y) :: st, S, none)
  | .isub, .int y :: .int x :: st => some (ls, .int (x - y) :: st, S, none)
  | .imul, .int y :: .int x :: st => some (ls, .int (x * y) :: st, S, none)
  | .iand, .int y :: .int x :: st => some (ls, .int (x &&& y) :: st, S, none)
  | .ior, .int y :: .int x :: st => some (ls, .int (x ||| y) :: st, S, none)
  | .ishl, .int y :: .int x :: st => some (ls, .int (x <<< (y &&& 31)) :: st, S, none)
  | .ishr, .int y :: .int x :: st => some (ls, .int (x >>> (y &&& 31)) :: st, S, none)
  | .idiv, .int y :: .int x :: st => some (ls, .int (x / y) :: st, S, some (¬ y = 0))
  | .irem, .int y :: .int x :: st => some (ls, .int (x - x / y * y) :: st, S, some (¬ y = 0))
  | .ineg, .int x :: st => some (ls, .int (-x) :: st, S, none)
  | .i2l, .int x :: st => some (ls, .long x.toInt64 :: st, S, none)
  | .l2i, .long x :: st => some (ls, .int x.toInt32 :: st, S, none)
  | .land, .long y :: .long x :: st => some (ls, .long (x &&& y) :: st, S, none)
  | .lor, .long y :: .long x :: st => some (ls, .long (x ||| y) :: st, S, none)
  | .lshl, .int y :: .long x :: st => some (ls, .long (x <<< (y.toInt64 &&& 63)) :: st, S, none)
  | .lshr, .int y :: .long x :: st => some (ls, .long (x >>> (y.toInt64 &&& 63)) :: st, S, none)
  | .lushr, .int y :: .long x :: st => some (ls, .long ((x.toUInt64 >>> (y.toInt64.toUInt64 &&& Int64.toUInt64 63)).toInt64) :: st, S, none)
  | .dup, .int x :: st => some (ls, .int x :: .int x :: st, S, none)
  | .dup, .ref x :: st => some (ls, .ref x :: .ref x :: st, S, none)
  | .dup2, .int x :: .ref y :: st => some (ls, .int x :: .ref y :: .int x :: .ref y :: st, S, none)
  | .pop, .int _ :: st => some (ls, st, S, none)
  | .getfield idx, .ref o :: st => match tf_fl idx F with
    | some (ci, k) => match Nat.blt ci 9, tf_isr ci k with
      | true, true => some (ls, .ref (tf_rf G o k) :: st, S, some (tf_tg G o = ci ∧ tf_rf G o k ≠ 0))
      | true, false => some (ls, .int (S o k) :: st, S, some (tf_tg G o = ci))
      | _, _ => none
    | none => none
  | .putfield idx, .int x :: .ref o :: st => match tf_fl idx F with
    | some (ci, k) => match Nat.blt ci 9, tf_isr ci k, tf_isz ci k with
      | true, false, false => some (ls, st, tf_set S o k x, some (tf_tg G o = ci))
      | true, false, true => some (ls, st, tf_set S o k x, some (tf_tg G o = ci ∧ (x = 0 ∨ x = 1)))
      | _, _, _ => none
    | none => none
  | .iaload, .int i :: .ref a :: st => some (ls, .int (S a i.toNatClampNeg) :: st, S, some ((tf_tg G a = 9 ∨ tf_tg G a = 14) ∧ vp_in i (tf_ln G a)))
  | .baload, .int i :: .ref a :: st => some (ls, .int (S a i.toNatClampNeg) :: st, S, some (tf_tg G a = 10 ∧ vp_in i (tf_ln G a)))
  | .aaload, .int i :: .ref a :: st => some (ls, .ref (tf_rf G a i.toNatClampNeg) :: st, S, some ((tf_tg G a = 11 ∨ tf_tg G a = 12 ∨ tf_tg G a = 13) ∧ vp_in i (tf_ln G a) ∧ tf_rf G a i.toNatClampNeg ≠ 0))
  | .iastore, .int x :: .int i :: .ref a :: st => some (ls, st, tf_set S a i.toNatClampNeg x, some (tf_tg G a = 9 ∧ vp_in i (tf_ln G a)))
  | .bastore, .int x :: .int i :: .ref a :: st => some (ls, st, tf_set S a i.toNatClampNeg x, some (tf_tg G a = 10 ∧ vp_in i (tf_ln G a) ∧ (x = 0 ∨ x = 1)))
  | .arraylength, .ref a :: st => some (ls, .int (nI (tf_ln G a)) :: st, S, some (tf_tg G a = 9 ∨ tf_tg G a = 14))
  | .getstatic idx, st => match tf_fl idx F with
    | some (100, 1) => some (ls, .ref 1 :: st, S, none)
    | some (100, 2) => some (ls, .ref 2 :: st, S, none)
    | _ => none
  | .invokestatic idx, .int y :: .int x :: st => match tf_fl idx F, tf_room st with
    | some (101, 0), true => some (ls, .int (if y < x then y else x) :: st, S, none)
    | some (101, 1), true => some (ls, .int (if x < y then y else x) :: st, S, none)
    | some (101, 2), true => bif tf_room (.int x :: st) then some (ls, .int (if 0 ≤ y then y else 0 - y) :: .int x :: st, S, none) else none
    | _, _ => none
  | .invokestatic idx, .int y :: st => match tf_fl idx F, tf_room st with
    | some (101, 2), true => some (ls, .int (if 0 ≤ y then y else 0 - y) :: st, S, none)
    | _, _ => none
  | .invokespecial idx, .ref _ :: st => match tf_fl idx F, tf_room st with
    | some (102, _), true => some (ls, st, S, none)
    | _, _ => none
  | .ldc2_w idx, st => match tf_fl idx F with
    | some (103, n) => some (ls, .long (Int64.ofNat n) :: st, S, none)
    | _ => none
  | _, _ => none
/-- a branch: its condition, the stack behind it -/
def tf_br : Instr → List Value → Option (Prop × List Value)
  | .ifCond .eq _, .int x :: st => some (x = 0, st)
  | .ifCond .ne _, .int x :: st => some (x ≠ 0, st)
  | .ifCond .lt _, .int x :: st => some (x < 0, st)
  | .ifCond .ge _, .int x :: st => some (0 ≤ x, st)
  | .ifCond .gt _, .int x :: st => some (0 < x, st)
  | .ifCond .le _, .int x :: st => some (x ≤ 0, st)
  | .if_icmp .eq _, .int y :: .int x :: st => some (x = y, st)
  | .if_icmp .ne _, .int y :: .int x :: st => some (x ≠ y, st)
  | .if_icmp .lt _, .int y :: .int x :: st => some (x < y, st)
  | .if_icmp .ge _, .int y :: .int x :: st => some (y ≤ x, st)
  | .if_icmp .gt _, .int y :: .int x :: st => some (y < x, st)
  | .if_icmp .le _, .int y :: .int x :: st => some (x ≤ y, st)
  | _, _ => none
def tf_and (C : Prop) : Option Prop → Prop
  | none => C
  | some c => C ∧ c
/-- n instructions, the branches taken as told -/
def tf_run (G : tf_G) (F : tf_F) (T : tf_T) : Nat → List Bool → Nat → List (Option Value) → List Value → tf_Sg → Prop → Option (Nat × List (Option Value) × List Value × tf_Sg × Prop)
  | 0, _, pc, ls, st, S, C => some (pc, ls, st, S, C)
  | n + 1, bs, pc, ls, st, S, C => match tf_at pc T with
    | none => none
    | some (i, nx, tg, v) => match i with
      | .goto _ => tf_run G F T n bs tg ls st S C
      | i => match tf_br i st with
        | some (c, st') => match bs with
          | [] => none
          | true :: bs => tf_run G F T n bs tg ls st' S (C ∧ c)
          | false :: bs => tf_run G F T n bs nx ls st' S (C ∧ ¬ c)
        | none => match tf_op G F ls S v i st with
          | none => none
          | some (ls', st', S', c) => tf_run G F T n bs nx ls' st' S' (tf_and C c)
