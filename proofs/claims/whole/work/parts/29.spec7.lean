/-! the class's rows -/
def tf_ct (p : Nat → Nat) (k : Nat) : Nat → Nat := fun j => if j < k then p j else 0
theorem tf_ct_0 {p : Nat → Nat} : tf_ct p 0 = fun _ => 0 := by funext j; unfold tf_ct; rw [if_neg (by omega)]
theorem tf_ct_s {p : Nat → Nat} {k : Nat} : tf_u (tf_ct p k) k (p k) = tf_ct p (k + 1) := by
  funext j
  unfold tf_u tf_ct
  by_cases h : j = k
  · subst h; rw [if_pos rfl, if_pos (by omega)]
  · rw [if_neg h]
    by_cases h2 : j < k
    · rw [if_pos h2, if_pos (by omega)]
    · rw [if_neg h2, if_neg (by omega)]
/-- a row filled to a place -/
def tf_fll (S : tf_Sg) (a k : Nat) (v : Int32) : tf_Sg := fun x j => if x = a ∧ j < k then v else S x j
theorem tf_fll_0 {S : tf_Sg} {a : Nat} {v : Int32} : tf_fll S a 0 v = S := by
  funext x j
  show (if x = a ∧ j < 0 then v else S x j) = S x j
  rw [if_neg (fun h => absurd h.2 (Nat.not_lt_zero j))]
theorem tf_fll_s {S : tf_Sg} {a k : Nat} {v : Int32} : tf_set (tf_fll S a k v) a k v = tf_fll S a (k + 1) v := by
  funext x j
  show (if x = a ∧ j = k then v else if x = a ∧ j < k then v else S x j) = (if x = a ∧ j < k + 1 then v else S x j)
  by_cases h : x = a
  · by_cases h1 : j = k
    · rw [if_pos ⟨h, h1⟩, if_pos ⟨h, by omega⟩]
    · rw [if_neg (fun q => h1 q.2)]
      by_cases h2 : j < k
      · rw [if_pos ⟨h, h2⟩, if_pos ⟨h, by omega⟩]
      · rw [if_neg (fun q => h2 q.2), if_neg (fun q => absurd q.2 (by omega))]
  · rw [if_neg (fun q => h q.1), if_neg (fun q => h q.1), if_neg (fun q => h q.1)]
/-- a board's two rows: the letter of each key (0: none, 1 more than the letter), the key of each letter -/
def tf_vo (v : Nat) : Int32 := if v = 0 then -9 else nI (v - 1)
def tf_kp (p : Nat → Nat) (l : Nat) : Nat := tf_fst (fun k => p k == l + 1) 30 0
def tf_bp (S : tf_Sg) (a c : Nat) (p : Nat → Nat) : tf_Sg := fun x k => if x = a ∧ k < 30 then tf_vo (p k) else if x = c ∧ k < 26 then tf_on 30 (tf_kp p k) else S x k
theorem tf_kp_none {p : Nat → Nat} {l : Nat} (h : ∀ k, k < 30 → p k ≠ l + 1) : tf_on 30 (tf_kp p l) = -9 := by
  unfold tf_kp
  apply tf_on_n
  have h1 : ∀ n k, k + n = 30 → tf_fst (fun k => p k == l + 1) n k = 30 := by
    intro n
    induction n with
    | zero => intro k hk; rw [tf_fst_0]; omega
    | succ n ih =>
      intro k hk
      rw [tf_fst_n (by simp; exact h k (by omega))]
      exact ih (k + 1) (by omega)
  rw [h1 30 0 rfl]
  decide
theorem tf_bp_0 {S : tf_Sg} {a c : Nat} (h : a ≠ c) : tf_fll (tf_fll S a 30 (-9)) c 26 (-9) = tf_bp S a c (fun _ => 0) := by
  funext x j
  show (if x = c ∧ j < 26 then (-9 : Int32) else if x = a ∧ j < 30 then -9 else S x j) = (if x = a ∧ j < 30 then tf_vo 0 else if x = c ∧ j < 26 then tf_on 30 (tf_kp (fun _ => 0) j) else S x j)
  rw [tf_kp_none (p := fun _ => 0) (fun k _ => by omega)]
  by_cases h1 : x = a ∧ j < 30
  · rw [if_pos h1, if_pos h1, if_neg (fun q => h (h1.1.symm.trans q.1))]; rfl
  · rw [if_neg h1, if_neg h1]
def tf_bd (G : tf_G) (o : Nat) : Prop := tf_tg G o = 0 ∧ (tf_rf G o 0 ≠ 0 ∧ tf_tg G (tf_rf G o 0) = 9 ∧ tf_ln G (tf_rf G o 0) = 30) ∧ (tf_rf G o 1 ≠ 0 ∧ tf_tg G (tf_rf G o 1) = 9 ∧ tf_ln G (tf_rf G o 1) = 26) ∧ tf_rf G o 0 ≠ tf_rf G o 1
