theorem tf_getD {α : Type} {l : List (Option α)} {n : Nat} {v : α} (h : l.getD n none = some v) : l[n]? = some (some v) := by
  rw [List.getD_eq_getElem?_getD] at h
  cases h2 : l[n]? with
  | none => rw [h2] at h; cases h
  | some w => rw [h2] at h; simp only [Option.getD_some] at h; rw [h]
def tf_lv (ad : Nat → Nat) (ls : List (Option Value)) : List (Nat × Value) := (List.range ls.length).filterMap fun i => (ls.getD i none).map fun v => (i, tf_tv ad v)
theorem tf_lv_in {ad : Nat → Nat} {ls : List (Option Value)} {i : Nat} {w : Value} : (i, w) ∈ tf_lv ad ls ↔ ∃ v, ls[i]? = some (some v) ∧ w = tf_tv ad v := by
  unfold tf_lv
  rw [List.mem_filterMap]
  constructor
  · rintro ⟨j, hj, h⟩
    cases hv : ls.getD j none with
    | none => rw [hv] at h; cases h
    | some v =>
      rw [hv] at h
      simp only [Option.map_some, Option.some.injEq, Prod.mk.injEq] at h
      obtain ⟨rfl, rfl⟩ := h
      exact ⟨v, tf_getD hv, rfl⟩
  · rintro ⟨v, hv, rfl⟩
    refine ⟨i, List.mem_range.mpr (List.getElem?_eq_some_iff.mp hv).1, ?_⟩
    rw [List.getD_eq_getElem?_getD, hv]
    rfl
theorem tf_hl_has {lsC : Array Slot} {nL : Nat} {ad : Nat → Nat} {ls : List (Option Value)} (h : tf_hl lsC nL ad ls) : lv_has lsC nL (tf_lv ad ls) := by
  refine ⟨h.2.1, h.2.2.1, fun q hq => ?_⟩
  obtain ⟨i, w⟩ := q
  obtain ⟨v, hv, rfl⟩ := tf_lv_in.mp hq
  exact h.2.2.2 i v hv
theorem tf_cat (ad : Nat → Nat) (v : Value) : (tf_tv ad v).category = v.category := by cases v <;> rfl
/-- a stored local, as the kit lists it -/
theorem tf_hl_set {lsC : Array Slot} {nL : Nat} {ad : Nat → Nat} {ls : List (Option Value)} {n : Nat} {v : Value} (hl : ls.length = nL) (hn : n < ls.length) (hp : ∀ k w, n = k + 1 → ls[k]? = some (some w) → w.category ≠ 2)
    (h : lv_has lsC nL ((n, tf_tv ad v) :: (tf_lv ad ls).filter (fun q => !(q.1 == n) && !(q.1 + 1 == n && q.2.category == 2)))) : tf_hl lsC (ls.set n (some v)).length ad (ls.set n (some v)) := by
  refine ⟨rfl, by rw [List.length_set, hl]; exact h.1, h.2.1, fun i w hw => ?_⟩
  by_cases hi : i = n
  · subst hi
    rw [List.getElem?_set_self hn] at hw
    cases hw
    exact h.2.2 _ List.mem_cons_self
  · rw [List.getElem?_set_ne (Ne.symm hi)] at hw
    refine h.2.2 (i, tf_tv ad w) (List.mem_cons_of_mem _ (List.mem_filter.mpr ⟨tf_lv_in.mpr ⟨w, hw, rfl⟩, ?_⟩))
    simp only [Bool.and_eq_true, Bool.not_eq_true', beq_eq_false_iff_ne, ne_eq, Bool.and_eq_false_iff]
    refine ⟨hi, ?_⟩
    by_cases hj : i + 1 = n
    · exact Or.inr (by rw [tf_cat]; exact hp i w hj.symm hw)
    · exact Or.inl hj
theorem tf_prev {ls : List (Option Value)} {n k : Nat} {w : Value} {r : Option Value} (hr : (match n with | 0 => none | k + 1 => ls.getD k none) = r) (hl : ∀ x, r ≠ some (.long x)) (hd : ∀ x, r ≠ some (.double x)) (hk : n = k + 1) (hw : ls[k]? = some (some w)) : w.category ≠ 2 := by
  subst hk
  have h2 : ls.getD k none = some w := by rw [List.getD_eq_getElem?_getD, hw]; rfl
  simp only [h2] at hr
  subst hr
  intro hc
  cases w with
  | long x => exact hl x rfl
  | double x => exact hd x rfl
  | _ => simp [Value.category] at hc
/-- the world's list: its places, a cell that changes, one that comes -/
theorem tf_tg_lt {G : tf_G} {o : Nat} (h : tf_tg G o ≠ 99) : o < G.length := by
  apply Nat.not_le.mp
  intro hle
  apply h
  simp [tf_tg, tf_e, List.getD_eq_getElem?_getD, List.getElem?_eq_none hle]
theorem tf_ws_at {D : tf_D} {ad : Nat → Nat} {G : tf_G} {S : tf_Sg} {o : Nat} (h4 : 4 ≤ o) (hlt : o < G.length) : (tf_ws D ad G S)[o - 4]? = some (ad o, tf_cell D ad S o (tf_e G o)) := by
  unfold tf_ws
  rw [List.getElem?_map, List.getElem?_range (by omega)]
  simp [Nat.sub_add_cancel h4]
theorem tf_cell_S {D : tf_D} {ad : Nat → Nat} {S S' : tf_Sg} {o : Nat} {e : Nat × Nat × List Nat} (h : S' o = S o) : tf_cell D ad S' o e = tf_cell D ad S o e := by
  unfold tf_cell tf_fs
  rw [h]
theorem tf_ws_set {D : tf_D} {ad : Nat → Nat} {G : tf_G} {S S' : tf_Sg} {o : Nat} (h4 : 4 ≤ o) (hlt : o < G.length) (hS : ∀ a, a ≠ o → S' a = S a) : (tf_ws D ad G S).set (o - 4) (ad o, tf_cell D ad S' o (tf_e G o)) = tf_ws D ad G S' := by
  apply List.ext_getElem?
  intro k
  by_cases hk : k = o - 4
  · subst hk
    rw [List.getElem?_set_self (by unfold tf_ws; rw [List.length_map, List.length_range]; omega), tf_ws_at h4 hlt]
  · rw [List.getElem?_set_ne (Ne.symm hk)]
    unfold tf_ws
    rw [List.getElem?_map, List.getElem?_map]
    by_cases hr : k < G.length - 4
    · rw [List.getElem?_range hr]
      simp only [Option.map_some, Option.some.injEq, Prod.mk.injEq, true_and]
      exact (tf_cell_S (hS _ (by omega))).symm
    · rw [List.getElem?_eq_none (by simpa using hr)]
      rfl
theorem tf_4 {G0 : tf_G} {S0 : tf_Sg} {G : tf_G} {S : tf_Sg} (hr : tf_ro G0 S0 G S) {o : Nat} (h : tf_tg G o < 14) : 4 ≤ o ∧ o < G.length := by
  refine ⟨Nat.not_lt.mp fun q => ?_, tf_tg_lt (by omega)⟩
  have := hr.2.1 o q
  omega
theorem tf_ro_set {G0 : tf_G} {S0 : tf_Sg} {G : tf_G} {S S' : tf_Sg} {o : Nat} (hr : tf_ro G0 S0 G S) (h : tf_tg G o < 14) (hS : ∀ a, a ≠ o → S' a = S a) : tf_ro G0 S0 G S' := by
  refine ⟨fun i hi => ?_, hr.2⟩
  obtain ⟨h1, h2, h3⟩ := hr.1 i hi
  exact ⟨h1, h2, by rw [hS i (by intro e; subst e; omega)]; exact h3⟩
theorem tf_set_ne {S : tf_Sg} {o k : Nat} {v : Int32} : ∀ a, a ≠ o → tf_set S o k v a = S a := by
  intro a h
  funext j
  simp [tf_set, h]
theorem tf_set_self {S : tf_Sg} {o k : Nat} {v : Int32} : tf_set S o k v o = upd (S o) k v := by
  funext j
  simp [tf_set, upd]
theorem tf_cell_o {D : tf_D} {ad : Nat → Nat} {S : tf_Sg} {o : Nat} {e : Nat × Nat × List Nat} (h : e.1 < 9) : tf_cell D ad S o e = .inr (e.1, tf_fs ad S o e) := by
  unfold tf_cell
  rw [if_pos h]
theorem tf_cell_i {D : tf_D} {ad : Nat → Nat} {S : tf_Sg} {o : Nat} {e : Nat × Nat × List Nat} (h : e.1 = 9 ∨ e.1 = 10) : tf_cell D ad S o e = .inl (D.2 e.1, e.2.1, .inl (S o)) := by
  unfold tf_cell
  rw [if_neg (by omega), if_pos (by omega)]
theorem tf_cell_r {D : tf_D} {ad : Nat → Nat} {S : tf_Sg} {o : Nat} {e : Nat × Nat × List Nat} (h : 11 ≤ e.1) : tf_cell D ad S o e = .inl (D.2 e.1, e.2.1, .inr (.inr (.inr (.inr (tf_ra ad e))))) := by
  unfold tf_cell
  rw [if_neg (by omega), if_neg (by omega)]
theorem tf_fs_at {ad : Nat → Nat} {S : tf_Sg} {o : Nat} {e : Nat × Nat × List Nat} {k : Nat} (hk : k < (tf_cl e.1).2.2) : (tf_fs ad S o e)[k]? = some (if tf_isr e.1 k = true then tf_rv ad (e.2.2.getD k 0) else .int (S o k)) := by
  unfold tf_fs
  rw [List.getElem?_map, List.getElem?_range hk]
  rfl
theorem tf_fs_set {ad : Nat → Nat} {S : tf_Sg} {o : Nat} {e : Nat × Nat × List Nat} {k : Nat} {v : Int32} (hk : k < (tf_cl e.1).2.2) (hi : tf_isr e.1 k = false) : (tf_fs ad S o e).set k (.int v) = tf_fs ad (tf_set S o k v) o e := by
  apply List.ext_getElem?
  intro j
  by_cases hj : j = k
  · subst hj
    rw [List.getElem?_set_self (by unfold tf_fs; rw [List.length_map, List.length_range]; exact hk), tf_fs_at hk]
    simp [hi, tf_set]
  · rw [List.getElem?_set_ne (Ne.symm hj)]
    unfold tf_fs
    rw [List.getElem?_map, List.getElem?_map]
    by_cases hr : j < (tf_cl e.1).2.2
    · rw [List.getElem?_range hr]
      simp [tf_set, hj]
    · rw [List.getElem?_eq_none (by simpa using hr)]
      rfl
