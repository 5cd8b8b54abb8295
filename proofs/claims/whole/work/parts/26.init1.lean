/-! making: an object's place takes a new one -/
def tf_al (G : tf_G) (o k : Nat) (z : Nat × Nat × List Nat) : tf_G := tf_sr (G ++ [z]) o k G.length
theorem tf_al_len {G : tf_G} {o k : Nat} {z : Nat × Nat × List Nat} : (tf_al G o k z).length = G.length + 1 := by unfold tf_al tf_sr; rw [List.length_set, List.length_append]; rfl
theorem tf_al_e {G : tf_G} {o k i : Nat} {z : Nat × Nat × List Nat} (h : o < G.length) : tf_e (tf_al G o k z) i = if i = o then ((tf_e G o).1, (tf_e G o).2.1, (tf_e G o).2.2.set k G.length) else tf_e (G ++ [z]) i := by
  unfold tf_al tf_sr
  rw [tf_e_set (by rw [List.length_append]; exact Nat.lt_add_right _ h), tf_e_app h]
theorem tf_al_o {G : tf_G} {o k : Nat} {z : Nat × Nat × List Nat} (h : o < G.length) : tf_e (tf_al G o k z) o = ((tf_e G o).1, (tf_e G o).2.1, (tf_e G o).2.2.set k G.length) := by rw [tf_al_e h, if_pos rfl]
theorem tf_al_n {G : tf_G} {o k n : Nat} {z : Nat × Nat × List Nat} (h : o < G.length) (hn : n = G.length) : tf_e (tf_al G o k z) n = z := by
  subst hn
  rw [tf_al_e h, if_neg (by omega), tf_e_app_n]
theorem tf_al_i {G : tf_G} {o k i : Nat} {z : Nat × Nat × List Nat} (h : o < G.length) (hi : i < G.length) (hn : i ≠ o) : tf_e (tf_al G o k z) i = tf_e G i := by
  rw [tf_al_e h, if_neg hn, tf_e_app hi]
theorem tf_new_id {S : tf_Sg} {n : Nat} (h : ∀ k, S n k = 0) : tf_new S n = S := by
  funext a j
  show (if a = n then 0 else S a j) = S a j
  by_cases q : a = n
  · rw [if_pos q, q, h]
  · rw [if_neg q]
def tf_l0 (m : Nat) : Nat := if m = 0 then 100 else if m = 1 then 120 else if m = 2 then 90 else if m = 3 then 150 else if m = 4 then 20 else 15
def tf_i0 (k : Nat) : Nat → Nat := fun j => if 120 ≤ j ∧ j < 120 + 6 * k then tf_l0 ((j - 120) % 6) else 0
theorem tf_i0_0 : tf_i0 0 = fun _ => 0 := by funext j; unfold tf_i0; rw [if_neg (by omega)]
theorem tf_i0_s {k : Nat} : tf_u (tf_u (tf_u (tf_u (tf_u (tf_u (tf_i0 k) (120 + 6 * k) 100) (120 + 6 * k + 1) 120) (120 + 6 * k + 2) 90) (120 + 6 * k + 3) 150) (120 + 6 * k + 4) 20) (120 + 6 * k + 5) 15 = tf_i0 (k + 1) := by
  funext j
  unfold tf_u tf_i0
  by_cases h : 120 + 6 * k ≤ j ∧ j < 120 + 6 * k + 6
  · obtain ⟨m, hm, rfl⟩ : ∃ m, m < 6 ∧ j = 120 + 6 * k + m := ⟨j - (120 + 6 * k), by omega, by omega⟩
    rw [if_pos (show 120 ≤ 120 + 6 * k + m ∧ 120 + 6 * k + m < 120 + 6 * (k + 1) by omega), show (120 + 6 * k + m - 120) % 6 = m by omega]
    have : m = 0 ∨ m = 1 ∨ m = 2 ∨ m = 3 ∨ m = 4 ∨ m = 5 := by omega
    rcases this with h | h | h | h | h | h <;> subst h <;> simp [tf_l0]
  · rw [if_neg (by omega), if_neg (by omega), if_neg (by omega), if_neg (by omega), if_neg (by omega), if_neg (by omega)]
    by_cases h2 : 120 ≤ j ∧ j < 120 + 6 * k
    · rw [if_pos h2, if_pos (by omega)]
    · rw [if_neg h2, if_neg (by omega)]
theorem tf_rw_0 {S : tf_Sg} {a : Nat} (h : ∀ k, S a k = 0) : tf_rw S a (fun _ => 0) = S := tf_rw_id (fun k => by rw [h k]; rfl)
theorem tf_vs_0 {n n' : Nat} : tf_vs n n' [] := fun o h => absurd h (by simp)
theorem tf_vs_r {n n' o : Nat} {l : List Value} (h : o < n) (t : tf_vs n n' l) : tf_vs n n' (.ref o :: l) := by
  intro q hq
  rcases List.mem_cons.mp hq with e | e
  · cases e; exact Or.inl h
  · exact t q e
theorem tf_vs_i {n n' : Nat} {i : Int32} {l : List Value} (t : tf_vs n n' l) : tf_vs n n' (.int i :: l) := by
  intro q hq
  rcases List.mem_cons.mp hq with e | e
  · cases e
  · exact t q e
theorem tf_vs_l {n n' : Nat} {i : Int64} {l : List Value} (t : tf_vs n n' l) : tf_vs n n' (.long i :: l) := by
  intro q hq
  rcases List.mem_cons.mp hq with e | e
  · cases e
  · exact t q e
