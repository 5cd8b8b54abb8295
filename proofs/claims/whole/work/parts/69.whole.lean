/-! THE CLAIM OUT OF ONE WALK OF THE LAW'S BODY. Your part is whole_start (and what it stands on); all else here is the same for every law, but numbers. -/
def R_law : String := "TenFingersLaw"
def lw_P (b : Addr) (xs : List Int32) (args : Array Value) (s : State) : Prop := args = #[.ref b] ∧ s.IntsAt b xs ∧ xs.length ≤ 320 ∧ (Jvm.Cond.and given_1 narrow_1).before args s = true
def lw_Q (_ : Array Value) (s : State) (o : Outcome) (t : State) : Prop := o = .returned (some (.int 1)) ∧ Framed s o t [] 600000 7302250
def lw_Z (below : List Frame) (a : Array Value) (s : State) : State → Prop := fun t => ∃ o, t.status = .running ∧ Ended t below o ∧ lw_Q a s o t
/-- the law's own end, with 1 on the stack, nothing written that was there before, its room as the claim has it -/
theorem lw_ret {p : Program} {l : Launch} {e : Env} {s : State} {m : MethodId} {below : List Frame} {meth : Method} {c : Code} {b : Nat} (hx : p.tables.exec = Jvm.exec) (hb : c.code = code) (hr : meth.sig.returnType = ret) (hlocks : meth.locks = false) {pc : Nat} {H : Heap} {ls : Array Slot} (hdg : decode code pc = .ok (.ireturn, 1)) : W p l e room_1 s m #[Value.ref b] below meth c H [] 600000 7302250 (lw_Z below #[Value.ref b] s) (F0 m pc ls [.int 1]) := by
  intro T hT X
  obtain ⟨fs, hret, hrun, hended, hW, hframe⟩ := X.leave (v := some (.int 1)) (hlocks := hlocks) (fun h => by rw [hr] at h; cases h)
  have hmeth' : T.vm.method? m = some meth := X.method'
  refine ⟨T.setFrames fs, ?_, .returned (some (.int 1)), hrun, hended, rfl, ⟨_, rfl⟩, hW, hframe⟩
  jvm_step X.here [X.here.top, hx, hb, hdg, hmeth', hr, ret, narrow_b1]
  (try refine ⟨rfl, ?_⟩); (try refine ⟨rfl, ?_⟩)
  first | (intro acts; rw [hret _ acts rfl rfl rfl]) | rw [hret _ _ rfl rfl rfl]
  exact Steps.refl _
/-- what holds at the law's entry: the machine, the code, the tables' words (any of lw_tbl by 'hts w (by decide +kernel)'), the script of L ints xs at the cell b, what the Statement gives of the start (any of its parts by flat_of_before) -/
def lw_At (p : Program) (s : State) (m : MethodId) (meth : Method) (c : Code) (b L : Nat) (xs : Nat → Int32) : Prop :=
  p.tables.exec = Jvm.exec ∧ c.code = code ∧ meth.sig.returnType = ret ∧ c.maxLocals = 4 ∧ s.vm.findClass R_law = some m.cls ∧ (∀ w ∈ lw_tbl, w.before #[Value.ref b] s = true) ∧ va_X b L xs s s.heap ∧ b < s.heap.size ∧ meth.locks = false ∧ (Jvm.Cond.and given_1 narrow_1).before #[Value.ref b] s = true

/-- what the tables say of an array of numbers, of an array of objects -/
theorem tf_arr_p {s : State} {args : Array Value} {ty : FieldType} (hp : ∀ C, ty ≠ .object C) (h : (Cond.arrayClass ty).before args s = true) : ∃ cA : ClassId, ArrOfT s cA ty ∧ va_RA s cA ty := by
  obtain ⟨cA, kA, comp, f1, f2, f3⟩ := Cond.arrayClass_spec h
  refine ⟨cA, fun n z => ⟨fun k h => (by cases h), kA, f2, comp, f3⟩, ?_⟩
  cases ty with
  | object C => exact absurd rfl (hp C)
  | _ => exact f1
theorem tf_arr_q {s : State} {args : Array Value} {C : String} (h : (Cond.arrayOver (.object C)).before args s = true) : ∃ cA : ClassId, ArrOfT s cA (.object C) ∧ va_RA s cA (.object C) := by
  obtain ⟨comp, cA, k, h1, h2, h3, h4, h5⟩ := Cond.arrayOver_spec h
  exact ⟨cA, fun n z => ⟨fun k h => (by cases h), k, h3, comp, h4⟩, k, comp, h3, h4, h1, h5⟩
def tf_sel (c : List Nat) (k : Nat) : Nat := c.getD k 0
set_option maxRecDepth 100000 in
theorem tf_dE : decode code 1309 = .ok (.ireturn, 1) := by decide +kernel
set_option maxHeartbeats 8000000 in
set_option maxRecDepth 100000 in
theorem whole_start {p : Program} {e : Env} {s : State} {m : MethodId} {below : List Frame} {meth : Method} {c : Code} (l : Launch) (hflags : l.flags = flags0) {b L : Nat} {xs : Nat → Int32} (hL : L ≤ 320) (C0 : lw_At p s m meth c b L xs) : W p l e room_1 s m #[Value.ref b] below meth c s.heap [] 0 0 (lw_Z below #[Value.ref b] s) (entryFrame m ([Value.ref b] : List Value).toArray 4) := by
  obtain ⟨hx, hb, hr, hml, hown, hts, hX, hbl, hlocks, hgv⟩ := id C0
  have htb := tf_tbl hts
  have hA : ∀ a : Nat, a < s.heap.size → ¬ (fun q : Nat => s.heap.size ≤ q) a := fun a h => Nat.not_le.mpr h
  have gv := flat_of_before _ hgv
  obtain ⟨t1, ht1, hT1⟩ := va_Tof (tm := .static "TenFingers$Keys" "FINGER_OF_COLUMN" "[I") (ty := .int) (N := 10) (f := fun j => .int (nI (tf_fi j 0))) (A := fun q : Nat => s.heap.size ≤ q) (by decide) (gv (.arrayOf (.static "TenFingers$Keys" "FINGER_OF_COLUMN" "[I") .int) (by decide +kernel)) (va_eqt (gv (.eq (.length (.static "TenFingers$Keys" "FINGER_OF_COLUMN" "[I")) (.int 10)) (by decide +kernel))) (fun j hj => match j, hj with
    | 0, _ => va_eqt (gv (.eq (.elem (.static "TenFingers$Keys" "FINGER_OF_COLUMN" "[I") (.int 0)) (.int 0)) (by decide +kernel))
    | 1, _ => va_eqt (gv (.eq (.elem (.static "TenFingers$Keys" "FINGER_OF_COLUMN" "[I") (.int 1)) (.int 1)) (by decide +kernel))
    | 2, _ => va_eqt (gv (.eq (.elem (.static "TenFingers$Keys" "FINGER_OF_COLUMN" "[I") (.int 2)) (.int 2)) (by decide +kernel))
    | 3, _ => va_eqt (gv (.eq (.elem (.static "TenFingers$Keys" "FINGER_OF_COLUMN" "[I") (.int 3)) (.int 3)) (by decide +kernel))
    | 4, _ => va_eqt (gv (.eq (.elem (.static "TenFingers$Keys" "FINGER_OF_COLUMN" "[I") (.int 4)) (.int 3)) (by decide +kernel))
    | 5, _ => va_eqt (gv (.eq (.elem (.static "TenFingers$Keys" "FINGER_OF_COLUMN" "[I") (.int 5)) (.int 4)) (by decide +kernel))
    | 6, _ => va_eqt (gv (.eq (.elem (.static "TenFingers$Keys" "FINGER_OF_COLUMN" "[I") (.int 6)) (.int 4)) (by decide +kernel))
    | 7, _ => va_eqt (gv (.eq (.elem (.static "TenFingers$Keys" "FINGER_OF_COLUMN" "[I") (.int 7)) (.int 5)) (by decide +kernel))
    | 8, _ => va_eqt (gv (.eq (.elem (.static "TenFingers$Keys" "FINGER_OF_COLUMN" "[I") (.int 8)) (.int 6)) (by decide +kernel))
    | 9, _ => va_eqt (gv (.eq (.elem (.static "TenFingers$Keys" "FINGER_OF_COLUMN" "[I") (.int 9)) (.int 7)) (by decide +kernel))) hA
  obtain ⟨t2, ht2, hT2⟩ := va_Tof (tm := .static "TenFingers$Hand" "FIRST_LAWS" "[I") (ty := .int) (N := 6) (f := fun j => .int (nI (tf_l0 j))) (A := fun q : Nat => s.heap.size ≤ q) (by decide) (gv (.arrayOf (.static "TenFingers$Hand" "FIRST_LAWS" "[I") .int) (by decide +kernel)) (va_eqt (gv (.eq (.length (.static "TenFingers$Hand" "FIRST_LAWS" "[I")) (.int 6)) (by decide +kernel))) (fun j hj => match j, hj with
    | 0, _ => va_eqt (gv (.eq (.elem (.static "TenFingers$Hand" "FIRST_LAWS" "[I") (.int 0)) (.int 100)) (by decide +kernel))
    | 1, _ => va_eqt (gv (.eq (.elem (.static "TenFingers$Hand" "FIRST_LAWS" "[I") (.int 1)) (.int 120)) (by decide +kernel))
    | 2, _ => va_eqt (gv (.eq (.elem (.static "TenFingers$Hand" "FIRST_LAWS" "[I") (.int 2)) (.int 90)) (by decide +kernel))
    | 3, _ => va_eqt (gv (.eq (.elem (.static "TenFingers$Hand" "FIRST_LAWS" "[I") (.int 3)) (.int 150)) (by decide +kernel))
    | 4, _ => va_eqt (gv (.eq (.elem (.static "TenFingers$Hand" "FIRST_LAWS" "[I") (.int 4)) (.int 20)) (by decide +kernel))
    | 5, _ => va_eqt (gv (.eq (.elem (.static "TenFingers$Hand" "FIRST_LAWS" "[I") (.int 5)) (.int 15)) (by decide +kernel))) hA
  have hZ1 := va_Zref (hts (.laysStatic "TenFingers$Keys" "FINGER_OF_COLUMN" "[I") (by decide +kernel)) (hts (.initialized "TenFingers$Keys") (by decide +kernel)) ht1 hA
  have hZ2 := va_Zref (hts (.laysStatic "TenFingers$Hand" "FIRST_LAWS" "[I") (by decide +kernel)) (hts (.initialized "TenFingers$Hand") (by decide +kernel)) ht2 hA
  obtain ⟨scr, q1, q2, q3, q4, q5⟩ := id hX
  have hT3 : va_T .int b L (fun j => .int (xs j)) (fun q : Nat => s.heap.size ≤ q) s s.heap := ⟨scr, q1, q2, q3, Nat.le_of_eq q4.symm, by rw [q4], q5, hA b hbl⟩
  obtain ⟨c0, iS0, hKn0⟩ := u_known (C := RX0) (T := TX0) (N := 2) (n := 2) htb tf_in0 (hts (.instantiable RX0 2) (by decide +kernel))
  obtain ⟨c1, iS1, hKn1⟩ := u_known (C := RX1) (T := TX1) (N := 1) (n := 1) htb tf_in1 (hts (.instantiable RX1 1) (by decide +kernel))
  obtain ⟨c2, iS2, hKn2⟩ := u_known (C := RX3) (T := TX3) (N := 4) (n := 4) htb tf_in3 (hts (.instantiable RX3 4) (by decide +kernel))
  obtain ⟨c3, iS3, hKn3⟩ := u_known (C := RX5) (T := TX5) (N := 2) (n := 2) htb tf_in5 (hts (.instantiable RX5 2) (by decide +kernel))
  obtain ⟨c4, iS4, hKn4⟩ := u_known (C := RX7) (T := TX7) (N := 6) (n := 6) htb tf_in7 (hts (.instantiable RX7 6) (by decide +kernel))
  obtain ⟨c5, iS5, hKn5⟩ := u_known (C := RX8) (T := TX8) (N := 2) (n := 2) htb tf_in8 (hts (.instantiable RX8 2) (by decide +kernel))
  obtain ⟨c6, iS6, hKn6⟩ := u_known (C := RX9) (T := TX9) (N := 3) (n := 3) htb tf_in9 (hts (.instantiable RX9 3) (by decide +kernel))
  obtain ⟨c7, iS7, hKn7⟩ := u_known (C := RX10) (T := TX10) (N := 7) (n := 7) htb tf_in10 (hts (.instantiable RX10 7) (by decide +kernel))
  obtain ⟨c8, iS8, hKn8⟩ := u_known (C := RX11) (T := TX11) (N := 6) (n := 6) htb tf_in11 (hts (.instantiable RX11 6) (by decide +kernel))
  obtain ⟨dC, dI, hKc⟩ : ∃ (dC : Nat → ClassId) (dI : Nat → Nat → Nat), ∀ (k : Nat) (q : vw_C), vwCl[k]? = some q → u_Kn s q.1 q.2.1 q.2.2 (dC k) (dI k) := by
    refine ⟨fun k => match k with | 0 => c0 | 1 => c1 | 2 => c2 | 3 => c3 | 4 => c4 | 5 => c5 | 6 => c6 | 7 => c7 | _ => c8, fun k => match k with | 0 => iS0 | 1 => iS1 | 2 => iS2 | 3 => iS3 | 4 => iS4 | 5 => iS5 | 6 => iS6 | 7 => iS7 | _ => iS8, ?_⟩
    intro k q hq
    match k, hq with
    | 0, hq => cases hq; exact hKn0
    | 1, hq => cases hq; exact hKn1
    | 2, hq => cases hq; exact hKn2
    | 3, hq => cases hq; exact hKn3
    | 4, hq => cases hq; exact hKn4
    | 5, hq => cases hq; exact hKn5
    | 6, hq => cases hq; exact hKn6
    | 7, hq => cases hq; exact hKn7
    | 8, hq => cases hq; exact hKn8
    | k + 9, hq => simp [vwCl] at hq
  obtain ⟨a9, u9⟩ := tf_arr_p (ty := .int) (fun C h => by cases h) (hts (.arrayClass .int) (by decide +kernel))
  obtain ⟨a10, u10⟩ := tf_arr_p (ty := .boolean) (fun C h => by cases h) (hts (.arrayClass .boolean) (by decide +kernel))
  obtain ⟨a11, u11⟩ := tf_arr_q (C := RX0) (hts (.arrayOver (.object RX0)) (by decide +kernel))
  obtain ⟨a12, u12⟩ := tf_arr_q (C := RX1) (hts (.arrayOver (.object RX1)) (by decide +kernel))
  obtain ⟨a13, u13⟩ := tf_arr_q (C := RX5) (hts (.arrayOver (.object RX5)) (by decide +kernel))
  let D : tf_D := ((dC, dI), fun i => match i with | 9 => a9 | 10 => a10 | 11 => a11 | 12 => a12 | _ => a13)
  let ad : Nat → Nat := fun i => match i with | 1 => t1 | 2 => t2 | 3 => b | _ => 0
  let S0 : tf_Sg := fun a j => match a with | 1 => nI (tf_fi j 0) | 2 => nI (tf_l0 j) | 3 => xs j | _ => 0
  have hK : va_K D.1 vwCl (tf_tys D) s := ⟨hKc, fun k q hk => match k, hk with
    | 0, hk => by cases hk; exact u9
    | 1, hk => by cases hk; exact u10
    | 2, hk => by cases hk; exact u11
    | 3, hk => by cases hk; exact u12
    | 4, hk => by cases hk; exact u13
    | k + 5, hk => by simp [tf_tys] at hk⟩
  have hP : va_P D.1 vwCl (tf_ws D ad (hpz L) S0) s.heap := fun k q h => by simp [tf_ws, hpz] at h
  have hD : va_D (fun q : Nat => s.heap.size ≤ q) (tf_ws D ad (hpz L) S0) := ⟨fun i j p q h => by simp [tf_ws, hpz] at h, fun k q h => by simp [tf_ws, hpz] at h⟩
  have hRo : tf_Ro ad (hpz L) S0 (fun q : Nat => s.heap.size ≤ q) s s.heap := by
    refine ⟨hZ1, hZ2, fun i hi => ?_, fun q hq => ?_, fun C hC => ?_⟩
    · match i, hi with
      | 0, hi => exact absurd (show (99 : Nat) = 14 from hi) (by decide)
      | 1, _ => exact hT1
      | 2, _ => exact hT2
      | 3, _ => exact hT3
      | i + 4, hi =>
        have : tf_tg (hpz L) (i + 4) = 99 := by simp [tf_tg, tf_e, hpz]
        omega
    · simp only [tf_nest, List.mem_cons, List.not_mem_nil, or_false] at hq
      rcases hq with h | h | h | h | h
      · subst h; exact hts (.methodLinkNest RX0 21 yX10_noKey "TenFingers") (by decide +kernel)
      · subst h; exact hts (.methodLinkNest RX2 9 yX10_noKey "TenFingers") (by decide +kernel)
      · subst h; exact hts (.methodLinkNest RX1 18 yX10_noKey "TenFingers") (by decide +kernel)
      · subst h; exact hts (.methodLinkNest RX8 43 yX10_noKey "TenFingers") (by decide +kernel)
      · subst h; exact hts (.methodLinkNest RX6 62 yX10_noKey "TenFingers") (by decide +kernel)
    · simp only [List.mem_cons, List.not_mem_nil, or_false] at hC
      rcases hC with h | h | h <;> subst h <;> exact va_AO.of (hts (.arrayOver (.object _)) (by decide +kernel))
  have hro : tf_ro (hpz L) S0 (hpz L) S0 := by
    refine ⟨fun i hi => ⟨hi, rfl, rfl⟩, fun i hi => ?_, Nat.le_refl _, Nat.le_refl 4, fun o k => ?_⟩
    · match i, hi with
      | 0, _ => exact (by decide : 14 ≤ 99)
      | 1, _ => exact Nat.le_refl 14
      | 2, _ => exact Nat.le_refl 14
      | 3, _ => exact Nat.le_refl 14
      | i + 4, hi => omega
    · have : tf_rf (hpz L) o k = 0 := by
        match o with
        | 0 => rfl
        | 1 => rfl
        | 2 => rfl
        | 3 => rfl
        | o + 4 => simp [tf_rf, tf_e, hpz]
      rw [this]
      exact (by decide : 0 < 4)
  let x : tf_X := (p, l, e, room_1, s, m, #[Value.ref b], below, meth, c, fun q : Nat => s.heap.size ≤ q, lw_Z below #[Value.ref b] s, D, ad, hpz L, S0)
  have hC : tf_C x cL_law RL 4 9 200 5000 false := ⟨hx, hb, hml, hown, htb, Nat.le_of_ble_eq_true rfl, Nat.le_of_ble_eq_true rfl, Nat.le_of_ble_eq_true rfl, Nat.le_of_ble_eq_true rfl, fun q h => h, fun h => by cases h⟩
  have hEnd : ∀ (Y : tf_Sg) (ls : List (Option Value)), tf_K x 200 5000 (tf_GG L) Y 1309 ls [.int 1] := by
    intro Y ls ad1 H locs lsC hI hl
    obtain ⟨-, -, -, -, hS1, -, -⟩ := hI
    refine va_forget hS1.2.2 ?_
    refine W.widen (k := 600000) (n := 7302250) (Nat.le_of_ble_eq_true rfl) (Nat.le_of_ble_eq_true rfl) ?_
    exact lw_ret hx hb hr hlocks tf_dE
  have h0 := law_begin (N := L) (z := xs) (S := S0) hC hL hEnd (fun a ha k => by
    match a, ha with
    | a + 4, _ => rfl) (fun j _ => rfl) (fun j => rfl) (fun j => rfl)
  have hh := lv_entry ([.ref b]) (n := 4) (Nat.le_of_ble_eq_true rfl)
  have hW := h0 ad s.heap [] ((lg_sl [Value.ref b] ++ List.replicate (4 - (lg_sl [Value.ref b]).length) Slot.unset).toArray) ⟨fun _ _ => rfl, hP, hK, hD, va_S.rf, hRo, hro⟩ (by
    refine ⟨rfl, hh.1, hh.2.1, fun i v hiv => ?_⟩
    match i, hiv with
    | 0, hiv =>
      simp at hiv
      subst hiv
      exact hh.2.2 (0, .ref b) (by simp [lv_args])
    | 1, hiv => simp at hiv
    | 2, hiv => simp at hiv
    | 3, hiv => simp at hiv
    | i + 4, hiv => simp at hiv)
  rw [lg_entry_eq]
  exact hW

