/-! WHAT IS SAID OF THE ROW s OF THE REFERENCE, in natural numbers: f k is its k-th number -/
def tf_fi (k t : Nat) : Nat := if t ≠ 0 then (if k % 10 < 5 then 0 else 4) else if k % 10 < 4 then k % 10 else if k % 10 = 4 then 3 else if k % 10 < 7 then 4 else k % 10 - 2
def tf_la (p q t : Nat) : Nat := if p = q then 2 else if tf_fi p t = tf_fi q t then 3 else if tf_fi p t / 4 = tf_fi q t / 4 then 1 else 0
def tf_di (a b : Nat) : Nat := (a - b) + (b - a)
/-- GAP from a key to a key -/
def tf_ga (f : Nat → Nat) (h p q t : Nat) : Nat :=
  if tf_la p q t = 2 then f (120 + 6 * h + 2)
  else if tf_la p q t = 3 then f (120 + 6 * h + 3) + f (120 + 6 * h + 4) * (tf_di (p % 10) (q % 10) + tf_di (p / 10) (q / 10))
  else if tf_la p q t = 1 then f (120 + 6 * h + 1) + f (120 + 6 * h + 5) * tf_di (p / 10) (q / 10)
  else f (120 + 6 * h)
/-- the first place from k on, of m, that P holds of; else the end -/
def tf_fst (P : Nat → Bool) : Nat → Nat → Nat
  | 0, k => k
  | m + 1, k => if P k = true then k else tf_fst P m (k + 1)
theorem tf_fst_0 {P : Nat → Bool} {k : Nat} : tf_fst P 0 k = k := rfl
theorem tf_fst_y {P : Nat → Bool} {m k : Nat} (h : P k = true) : tf_fst P (m + 1) k = k := by unfold tf_fst; rw [if_pos h]
theorem tf_fst_n {P : Nat → Bool} {m k : Nat} (h : ¬ P k = true) : tf_fst P (m + 1) k = tf_fst P m (k + 1) := by conv => { lhs; unfold tf_fst }; rw [if_neg h]
/-- the KEY of a letter; 30: none -/
def tf_ke (f : Nat → Nat) (b l : Nat) : Nat := tf_fst (fun k => f (30 * b + k) == l + 1) 30 0
/-- a place or none, as it is answered -/
def tf_on (n k : Nat) : Int32 := if k < n then nI k else (-9)
theorem tf_fst_le (P : Nat → Bool) : ∀ m k, k ≤ tf_fst P m k ∧ tf_fst P m k ≤ k + m
  | 0, k => ⟨Nat.le_refl _, Nat.le_refl _⟩
  | m + 1, k => by
    unfold tf_fst
    have h := tf_fst_le P m (k + 1)
    split <;> omega
theorem tf_fst_at (P : Nat → Bool) : ∀ m k, tf_fst P m k < k + m → P (tf_fst P m k) = true
  | 0, k, h => by unfold tf_fst at h; omega
  | m + 1, k, h => by
    unfold tf_fst at h ⊢
    split
    · assumption
    · next hn =>
      rw [if_neg hn] at h
      exact tf_fst_at P m (k + 1) (by omega)
theorem tf_fst_no (P : Nat → Bool) : ∀ m k j, k ≤ j → j < tf_fst P m k → P j = false
  | 0, k, j, h1, h2 => by unfold tf_fst at h2; omega
  | m + 1, k, j, h1, h2 => by
    unfold tf_fst at h2
    split at h2
    · omega
    · next hn =>
      by_cases hj : j = k
      · subst hj
        simpa using hn
      · exact tf_fst_no P m (k + 1) j (by omega) h2
theorem tf_fst_eq (P : Nat → Bool) {m k j : Nat} (h1 : k ≤ j) (h2 : j < k + m) (h3 : P j = true) (h4 : ∀ i, k ≤ i → i < j → P i = false) : tf_fst P m k = j := by
  have h := tf_fst_le P m k
  rcases Nat.lt_trichotomy (tf_fst P m k) j with h5 | h5 | h5
  · have h6 := tf_fst_at P m k (by omega)
    rw [h4 _ h.1 h5] at h6
    cases h6
  · exact h5
  · rw [tf_fst_no P m k j h1 h5] at h3
    cases h3
theorem tf_fst_end (P : Nat → Bool) {m k : Nat} (h : ∀ i, k ≤ i → i < k + m → P i = false) : tf_fst P m k = k + m := by
  have h1 := tf_fst_le P m k
  rcases Nat.lt_or_ge (tf_fst P m k) (k + m) with h2 | h2
  · have h3 := tf_fst_at P m k h2
    rw [h _ h1.1 h2] at h3
    cases h3
  · omega
theorem tf_ke_le (f : Nat → Nat) (b l : Nat) : tf_ke f b l ≤ 30 := by have := tf_fst_le (fun k => f (30 * b + k) == l + 1) 30 0; unfold tf_ke; omega
theorem tf_fi_le (k t : Nat) : tf_fi k t < 8 := by unfold tf_fi; repeat (first | split | omega)
theorem tf_la_le (p q t : Nat) : tf_la p q t < 4 := by unfold tf_la; repeat (first | split | omega)
theorem tf_di_le {a b n : Nat} (ha : a < n) (hb : b < n) : tf_di a b < n := by unfold tf_di; omega
theorem tf_amt {a b : Nat} (ha : a < 1000000) (hb : b < 1000000) : (if nI a - nI b < 0 then -(nI a - nI b) else nI a - nI b) = nI (tf_di a b) := by
  unfold tf_di
  by_cases h : a < b
  · rw [if_pos (pk_sneg (by omega) h), show a - b = 0 by omega, Nat.zero_add]
    have : -(nI a - nI b) = nI b - nI a := by rw [Int32.neg_sub]
    rw [this, pk_sub (by omega)]
  · rw [pk_sub (by omega), if_neg (nI_pos (by omega)), show b - a = 0 by omega, Nat.add_zero]
/-- the shape of the reference -/
def tf_mo (G : tf_G) (o : Nat) : Prop := tf_tg G o = 8 ∧ (tf_rf G o 0 ≠ 0 ∧ tf_tg G (tf_rf G o 0) = 9 ∧ tf_ln G (tf_rf G o 0) = 7) ∧ (tf_rf G o 1 ≠ 0 ∧ tf_tg G (tf_rf G o 1) = 9 ∧ tf_ln G (tf_rf G o 1) = 368) ∧ (tf_rf G o 2 ≠ 0 ∧ tf_tg G (tf_rf G o 2) = 9 ∧ tf_ln G (tf_rf G o 2) = 368) ∧ (tf_rf G o 4 ≠ 0 ∧ tf_tg G (tf_rf G o 4) = 9 ∧ tf_ln G (tf_rf G o 4) = 48)
/-- the row s is f, of small numbers -/
def tf_sf (G : tf_G) (S : tf_Sg) (o : Nat) (f : Nat → Nat) : Prop := (∀ k, S (tf_rf G o 1) k = nI (f k)) ∧ ∀ k, f k < 10000
