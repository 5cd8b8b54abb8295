/-! A LAYER OVER THE KIT: an abstract heap (shapes G: by number of an object its tag, its length, its references; numbers S: by object and place an int), a run of straight code that is computed, contracts that speak of the abstract heap alone. Object 0 is none, 1 and 2 the static arrays, 3 the script, from 4 on what is made. -/
abbrev tf_G : Type := List (Nat × Nat × List Nat)
abbrev tf_Sg : Type := Nat → Nat → Int32
abbrev tf_D : Type := va_G × (Nat → ClassId)
def tf_e (G : tf_G) (o : Nat) : Nat × Nat × List Nat := G.getD o (99, 0, [])
def tf_tg (G : tf_G) (o : Nat) : Nat := (tf_e G o).1
def tf_ln (G : tf_G) (o : Nat) : Nat := (tf_e G o).2.1
def tf_rf (G : tf_G) (o k : Nat) : Nat := (tf_e G o).2.2.getD k 0
def tf_set (S : tf_Sg) (o k : Nat) (v : Int32) : tf_Sg := fun a j => if a = o ∧ j = k then v else S a j
def tf_rv (ad : Nat → Nat) (x : Nat) : Value := if x = 0 then .null else .ref (ad x)
def tf_tv (ad : Nat → Nat) : Value → Value
  | .ref x => .ref (ad x)
  | v => v
/-- the classes by number: name, fields, how many -/
def tf_cl (ci : Nat) : vw_C := vwCl.getD ci (RX0, TX0, 2)
def tf_ty : Nat → Nat → FieldType
  | 0 => tyX0
  | 1 => tyX1
  | 2 => tyX3
  | 3 => tyX5
  | 4 => tyX7
  | 5 => tyX8
  | 6 => tyX9
  | 7 => tyX10
  | _ => tyX11
/-- which fields hold references -/
def tf_isr : Nat → Nat → Bool
  | 3, k => k == 0
  | 6, k => Nat.blt k 2
  | 7, k => Nat.blt k 6
  | 8, k => Nat.blt k 3 || k == 4
  | _, _ => true
theorem tf_isr_ok : ∀ ci, ci < 9 → ∀ k, k < (tf_cl ci).2.2 → tf_isr ci k = (tf_ty ci k).isReference := by decide +kernel
theorem tf_hin (ci : Nat) (h : ci < 9) : ∀ w ∈ u_ws (tf_cl ci).1 (tf_cl ci).2.1 (tf_cl ci).2.2, w ∈ tf_TB := by
  match ci, h with
  | 0, _ => exact tf_in0
  | 1, _ => exact tf_in1
  | 2, _ => exact tf_in3
  | 3, _ => exact tf_in5
  | 4, _ => exact tf_in7
  | 5, _ => exact tf_in8
  | 6, _ => exact tf_in9
  | 7, _ => exact tf_in10
  | 8, _ => exact tf_in11
theorem tf_hcl (ci : Nat) (h : ci < 9) : vwCl[ci]? = some ((tf_cl ci).1, (tf_cl ci).2.1, (tf_cl ci).2.2) := by
  match ci, h with
  | 0, _ | 1, _ | 2, _ | 3, _ | 4, _ | 5, _ | 6, _ | 7, _ | 8, _ => rfl
theorem tf_hty (ci : Nat) (h : ci < 9) : ∀ k, k < (tf_cl ci).2.2 → parseFieldDescriptor ((tf_cl ci).2.1 k).2.2.1 = some (tf_ty ci k) := by
  match ci, h with
  | 0, _ => exact tyX0_ok
  | 1, _ => exact tyX1_ok
  | 2, _ => exact tyX3_ok
  | 3, _ => exact tyX5_ok
  | 4, _ => exact tyX7_ok
  | 5, _ => exact tyX8_ok
  | 6, _ => exact tyX9_ok
  | 7, _ => exact tyX10_ok
  | 8, _ => exact tyX11_ok
theorem tf_hnm (ci : Nat) (h : ci < 9) : ∀ a, a < (tf_cl ci).2.2 → ∀ b, b < (tf_cl ci).2.2 → a ≠ b → ((tf_cl ci).2.1 a).2.1 ≠ ((tf_cl ci).2.1 b).2.1 := by
  match ci, h with
  | 0, _ => exact nmX0
  | 1, _ => exact nmX1
  | 2, _ => exact nmX3
  | 3, _ => exact nmX5
  | 4, _ => exact nmX7
  | 5, _ => exact nmX8
  | 6, _ => exact nmX9
  | 7, _ => exact nmX10
  | 8, _ => exact nmX11
/-- the fields of an object, the cell of any -/
def tf_fs (ad : Nat → Nat) (S : tf_Sg) (o : Nat) (e : Nat × Nat × List Nat) : List Value := (List.range (tf_cl e.1).2.2).map fun k => if tf_isr e.1 k = true then tf_rv ad (e.2.2.getD k 0) else .int (S o k)
def tf_ra (ad : Nat → Nat) (e : Nat × Nat × List Nat) : Nat → Option Nat := fun j => if e.2.2.getD j 0 = 0 then none else some (ad (e.2.2.getD j 0))
def tf_cell (D : tf_D) (ad : Nat → Nat) (S : tf_Sg) (o : Nat) (e : Nat × Nat × List Nat) : va_E :=
  if e.1 < 9 then .inr (e.1, tf_fs ad S o e)
  else if e.1 < 11 then .inl (D.2 e.1, e.2.1, .inl (S o))
  else .inl (D.2 e.1, e.2.1, .inr (.inr (.inr (.inr (tf_ra ad e)))))
def tf_tys (D : tf_D) : List (ClassId × FieldType) := [(D.2 9, .int), (D.2 10, .boolean), (D.2 11, .object RX0), (D.2 12, .object RX1), (D.2 13, .object RX5)]
def tf_ws (D : tf_D) (ad : Nat → Nat) (G : tf_G) (S : tf_Sg) : va_W := (List.range (G.length - 4)).map fun j => (ad (j + 4), tf_cell D ad S (j + 4) (tf_e G (j + 4)))
/-- what is only read: the static arrays, the script; the links to a nest mate's private method; the classes of arrays of objects -/
def tf_nest : List (String × Nat) := [(RX0, 21), (RX2, 9), (RX1, 18), (RX8, 43), (RX6, 62)]
def tf_Ro (ad : Nat → Nat) (G : tf_G) (S : tf_Sg) (A : Nat → Prop) (U : State) (H : Heap) : Prop :=
  va_Z "TenFingers$Keys" "FINGER_OF_COLUMN" "[I" (.ref (ad 1)) A U H ∧ va_Z "TenFingers$Hand" "FIRST_LAWS" "[I" (.ref (ad 2)) A U H ∧
  (∀ i, tf_tg G i = 14 → va_T .int (ad i) (tf_ln G i) (fun j => .int (S i j)) A U H) ∧ (∀ q ∈ tf_nest, va_Nw (.methodLinkNest q.1 q.2 yX10_noKey "TenFingers") U) ∧ (∀ C ∈ [RX0, RX1, RX5], va_AO C U)
/-- every reference kept in a shape is a number of an object that is there, or 0 -/
def tf_wf (G : tf_G) : Prop := ∀ o k, tf_rf G o k < G.length
/-- what is only read is as at the start -/
def tf_ro (G0 : tf_G) (S0 : tf_Sg) (G : tf_G) (S : tf_Sg) : Prop := (∀ i, tf_tg G i = 14 → tf_tg G0 i = 14 ∧ tf_ln G i = tf_ln G0 i ∧ S i = S0 i) ∧ (∀ i, i < 4 → 14 ≤ tf_tg G i) ∧ G0.length ≤ G.length ∧ 4 ≤ G0.length ∧ tf_wf G
/-- a world at a state: a contract's start -/
def tf_Wd (D : tf_D) (ad : Nat → Nat) (G : tf_G) (S : tf_Sg) (A : Nat → Prop) (U : State) : Prop :=
  va_P D.1 vwCl (tf_ws D ad G S) U.heap ∧ va_K D.1 vwCl (tf_tys D) U ∧ va_D A (tf_ws D ad G S) ∧ tf_Ro ad G S A U U.heap ∧ tf_ro G S G S
abbrev tf_M : Type := MethodName × ByteArray × Nat × Option FieldType
def tf_w (M : tf_M) : List Cond := .code M.1 M.2.1 M.2.2.1 M.2.2.2 :: tf_TB
def tf_rm (d mc ms : Nat) : Room := { frames := d, cells := mc, slots := ms, locals := 32 * d }
/-- the contract: from (G, S) with these arguments the method answers r and leaves (G', S') -/
def tf_Fn (M : tf_M) (d mc ms : Nat) (G : tf_G) (S : tf_Sg) (av : List Value) (G' : tf_G) (S' : tf_Sg) (r : Option Value) : Prop :=
  ∀ (l : Launch) (D : tf_D) (ad : Nat → Nat) (sz : Nat), Met l M.1 (tf_w M) (tf_rm d mc ms)
    (va_Pc (av.map (tf_tv ad)) (fun U => U.heap.size = sz ∧ tf_Wd D ad G S (va_A (tf_ws D ad G S) sz) U))
    (fun _ st o t => (∃ ad' : Nat → Nat, (∀ i, i < G.length ∨ G'.length ≤ i → ad' i = ad i) ∧ o = .returned (r.map (tf_tv ad')) ∧ va_P D.1 vwCl (tf_ws D ad' G' S') t.heap ∧ va_D (va_A (tf_ws D ad G S) sz) (tf_ws D ad' G' S') ∧ tf_ro G S G' S') ∧ va_F (va_A (tf_ws D ad G S) sz) st t)
    mc ms (va_A (tf_ws D ad G S) sz)
abbrev tf_X : Type := Program × Launch × Env × Room × State × MethodId × Array Value × List Frame × Method × Code × (Nat → Prop) × (State → Prop) × tf_D × (Nat → Nat) × tf_G × tf_Sg
def tf_W : tf_X → Heap → List Loc → Nat → Nat → Nat → Array Slot → List Value → Prop
  | (p, l, e, R, s, m, args, below, meth, c, _, Q, _, _, _, _), H, locs, kc, ks, pc, ls, st => W p l e R s m args below meth c H locs kc ks Q (F0 m pc ls st)
/-- the world inside a method -/
def tf_In : tf_X → (Nat → Nat) → tf_G → tf_Sg → Heap → List Loc → Prop
  | (_, _, _, _, s, _, _, _, _, _, A, _, D, ad0, G0, S0), ad, G, S, H, locs =>
    (∀ i, i < G0.length ∨ G.length ≤ i → ad i = ad0 i) ∧ va_P D.1 vwCl (tf_ws D ad G S) H ∧ va_K D.1 vwCl (tf_tys D) s ∧ va_D A (tf_ws D ad G S) ∧ va_S A s.heap H locs ∧ tf_Ro ad0 G0 S0 A s s.heap ∧ tf_ro G0 S0 G S
def tf_hl (lsC : Array Slot) (nL : Nat) (ad : Nat → Nat) (ls : List (Option Value)) : Prop := ls.length = nL ∧ lsC.size = nL ∧ lv_wf lsC ∧ ∀ (i : Nat) (v : Value), ls[i]? = some (some v) → lsC[i]? = some (.val (tf_tv ad v))
def tf_K (x : tf_X) (kc ks : Nat) (G : tf_G) (S : tf_Sg) (pc : Nat) (ls : List (Option Value)) (st : List Value) : Prop :=
  ∀ (ad : Nat → Nat) (H : Heap) (locs : List Loc) (lsC : Array Slot), tf_In x ad G S H locs → tf_hl lsC ls.length ad ls → tf_W x H locs kc ks pc lsC (st.map (tf_tv ad))
/-- what stays through a method: the machine, its code, the tables, the room -/
def tf_C : tf_X → ByteArray → String → Nat → Nat → Nat → Nat → Bool → Prop
  | (p, _, _, R, s, m, args, _, meth, c, A, _, _, _, _, _), cc, own, nL, d, mc, ms, ini =>
    p.tables.exec = Jvm.exec ∧ c.code = cc ∧ c.maxLocals = nL ∧ s.vm.findClass own = some m.cls ∧ (∀ w ∈ tf_TB, w.before args s = true) ∧ d ≤ R.frames ∧ 32 * d ≤ R.locals ∧ mc ≤ R.cells ∧ ms ≤ R.slots ∧ (∀ q, s.heap.size ≤ q → A q) ∧ (ini = true → meth.name = "<init>")
/-! tables of a method's code, links of a class -/
abbrev tf_T : Type := List (Nat × Instr × Nat × Nat × Int32)
def tf_at (pc : Nat) : tf_T → Option (Instr × Nat × Nat × Int32)
  | [] => none
  | q :: r => bif Nat.beq q.1 pc then some q.2 else tf_at pc r
def tf_len : Instr → Nat
  | .iload _ | .aload _ | .istore _ | .astore _ | .bipush _ | .lload _ | .newarray _ => 2
  | .sipush _ | .iinc _ _ | .goto _ | .ifCond _ _ | .if_icmp _ _ | .getfield _ | .putfield _ | .getstatic _ | .invokevirtual _ | .invokestatic _ | .invokespecial _ | .new _ | .anewarray _ | .ldc2_w _ => 3
  | .tableswitch _ _ _ _ => 0
  | _ => 1
def tf_ok2 (cc : ByteArray) (q : Nat × Instr × Nat × Nat × Int32) : Bool :=
  decide (decode cc q.1 = .ok (q.2.1, q.2.2.1 - q.1)) && (Nat.beq (tf_len q.2.1) 0 || Nat.beq q.2.2.1 (q.1 + tf_len q.2.1)) && (match q.2.1 with
    | .iconst n => decide (Int32.ofInt n = q.2.2.2.2)
    | .bipush n => decide ((Int8.ofInt n).toInt32 = q.2.2.2.2)
    | .sipush n => decide ((Int16.ofInt n).toInt32 = q.2.2.2.2)
    | .iinc _ n => decide (Int32.ofInt n = q.2.2.2.2)
    | .goto off => decide ((q.1 : Int) + off = (q.2.2.2.1 : Int))
    | .ifCond _ off => decide ((q.1 : Int) + off = (q.2.2.2.1 : Int))
    | .if_icmp _ off => decide ((q.1 : Int) + off = (q.2.2.2.1 : Int))
    | _ => true)
def tf_okT (cc : ByteArray) (T : tf_T) : Prop := T.all (tf_ok2 cc) = true
theorem tf_at_in {pc : Nat} : ∀ {T : tf_T} {r : Instr × Nat × Nat × Int32}, tf_at pc T = some r → (pc, r) ∈ T
  | [], _, h => by simp [tf_at] at h
  | q :: t, r, h => by
    simp only [tf_at] at h
    cases hq : Nat.beq q.1 pc with
    | true =>
      rw [hq] at h
      simp only [cond_true, Option.some.injEq] at h
      have := Nat.eq_of_beq_eq_true hq
      subst this
      subst h
      exact List.mem_cons_self
    | false =>
      rw [hq] at h
      simp only [cond_false] at h
      exact List.mem_cons_of_mem _ (tf_at_in h)
theorem tf_dec {cc : ByteArray} {T : tf_T} (hT : tf_okT cc T) {pc : Nat} {i : Instr} {nx tg : Nat} {v : Int32} (h : tf_at pc T = some (i, nx, tg, v)) : tf_ok2 cc (pc, i, nx, tg, v) = true := List.all_eq_true.mp hT _ (tf_at_in h)
theorem tf_dc {cc : ByteArray} {pc : Nat} {i : Instr} {nx tg : Nat} {v : Int32} (h : tf_ok2 cc (pc, i, nx, tg, v) = true) (n : Nat) (hn : tf_len i = n + 1) : decode cc pc = .ok (i, n + 1) ∧ nx = pc + (n + 1) := by
  simp only [tf_ok2, Bool.and_eq_true, Bool.or_eq_true, decide_eq_true_eq] at h
  obtain ⟨⟨h1, h2⟩, -⟩ := h
  have h3 : nx = pc + (n + 1) := by
    rcases h2 with h2 | h2
    · have := Nat.eq_of_beq_eq_true h2
      rw [hn] at this
      cases this
    · have := Nat.eq_of_beq_eq_true h2
      rw [hn] at this
      exact this
  subst h3
  rw [Nat.add_sub_cancel_left] at h1
  exact ⟨h1, rfl⟩
abbrev tf_F : Type := List (Nat × Nat × Nat)
def tf_fl (idx : Nat) : tf_F → Option (Nat × Nat)
  | [] => none
  | q :: r => bif Nat.beq q.1 idx then some q.2 else tf_fl idx r
def tf_mth : Nat → MethodName × ByteArray × Nat
  | 0 => (Lib.Math.min.name, Lib.Math.min.code, 2)
  | 1 => (Lib.Math.max.name, Lib.Math.max.code, 2)
  | _ => (Lib.Math.abs.name, Lib.Math.abs.code, 1)
def tf_ok1 (own : String) (q : Nat × Nat × Nat) : Bool :=
  bif Nat.blt q.2.1 9 then decide (Cond.fieldLink own q.1 (tf_cl q.2.1).1 ((tf_cl q.2.1).2.1 q.2.2).2.1 ((tf_cl q.2.1).2.1 q.2.2).2.2.1 ∈ tf_TB) && Nat.blt q.2.2 (tf_cl q.2.1).2.2 && decide (((tf_cl q.2.1).2.1 q.2.2).1 = (tf_cl q.2.1).1)
  else bif Nat.beq q.2.1 100 then (if q.2.2 = 1 then decide (Cond.fieldLink own q.1 "TenFingers$Keys" "FINGER_OF_COLUMN" "[I" ∈ tf_TB) else if q.2.2 = 2 then decide (Cond.fieldLink own q.1 "TenFingers$Hand" "FIRST_LAWS" "[I" ∈ tf_TB) else false)
  else bif Nat.beq q.2.1 101 then decide (Cond.methodLink own q.1 (tf_mth q.2.2).1 ∈ tf_TB ∧ Cond.static (tf_mth q.2.2).1 ∈ tf_TB ∧ Cond.initialized "java/lang/Math" ∈ tf_TB ∧ Cond.code (tf_mth q.2.2).1 (tf_mth q.2.2).2.1 (tf_mth q.2.2).2.2 (some .int) ∈ tf_TB)
  else bif Nat.beq q.2.1 102 then decide (Cond.methodLink own q.1 objectInit ∈ tf_TB ∧ Cond.instanceMethod objectInit ∈ tf_TB ∧ Cond.code objectInit ⟨#[0xb1]⟩ 1 none ∈ tf_TB)
  else bif Nat.beq q.2.1 103 then decide (Cond.constantLong own q.1 (Int64.ofNat q.2.2) ∈ tf_TB)
  else false
def tf_okF (own : String) (F : tf_F) : Prop := F.all (tf_ok1 own) = true
theorem tf_fl_in {idx : Nat} : ∀ {F : tf_F} {r : Nat × Nat}, tf_fl idx F = some r → (idx, r) ∈ F
  | [], _, h => by simp [tf_fl] at h
  | q :: t, r, h => by
    simp only [tf_fl] at h
    cases hq : Nat.beq q.1 idx with
    | true =>
      rw [hq] at h
      simp only [cond_true, Option.some.injEq] at h
      have := Nat.eq_of_beq_eq_true hq
      subst this
      subst h
      exact List.mem_cons_self
    | false =>
      rw [hq] at h
      simp only [cond_false] at h
      exact List.mem_cons_of_mem _ (tf_fl_in h)
theorem tf_flk {own : String} {F : tf_F} (hF : tf_okF own F) {idx ci k : Nat} (h : tf_fl idx F = some (ci, k)) : tf_ok1 own (idx, ci, k) = true := List.all_eq_true.mp hF _ (tf_fl_in h)
