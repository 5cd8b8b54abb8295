/-! feed, board, text, word -/
def tf_fd (T : Nat → Nat) (tn : Nat) (x : Int64) (n : Nat) : Nat → Nat := fun j => if tn ≤ j ∧ j < tn + n then tf_by x (j - tn) else T j
theorem tf_fd_0 {T : Nat → Nat} {tn : Nat} {x : Int64} : tf_fd T tn x 0 = T := by funext j; unfold tf_fd; rw [if_neg (by omega)]
theorem tf_fd_s {T : Nat → Nat} {tn k : Nat} {x : Int64} : tf_u (tf_fd T tn x k) (tn + k) (tf_by x k) = tf_fd T tn x (k + 1) := by
  funext j
  unfold tf_u tf_fd
  by_cases h : j = tn + k
  · subst h; rw [if_pos rfl, if_pos (by omega), show tn + k - tn = k by omega]
  · rw [if_neg h]
    by_cases h2 : tn ≤ j ∧ j < tn + k
    · rw [if_pos h2, if_pos (by omega)]
    · rw [if_neg h2, if_neg (by omega)]
def s_feed (A : tf_A) (n : Int32) (x : Int64) : tf_Q := if n < 1 then (-4, tA_ref A 4) else if 8 < n ∨ 48 < A.2.2.1 + n.toNatClampNeg then (-6, tA_ref A 6) else (nI (A.2.2.1 + n.toNatClampNeg), tA_t A (tf_fd A.2.1 A.2.2.1 x n.toNatClampNeg) (A.2.2.1 + n.toNatClampNeg))
def tf_bv (c : Nat) : Nat := if c = 46 then 0 else c - 97 + 1
def tf_bw (f T : Nat → Nat) (b n : Nat) : Nat → Nat := fun j => if 30 * b ≤ j ∧ j < 30 * b + n then tf_bv (T ((j - 30 * b) + (j - 30 * b) / 10)) else f j
theorem tf_bw_0 {f T : Nat → Nat} {b : Nat} : tf_bw f T b 0 = f := by funext j; unfold tf_bw; rw [if_neg (by omega)]
theorem tf_bw_s {f T : Nat → Nat} {b k : Nat} : tf_u (tf_bw f T b k) (30 * b + k) (tf_bv (T (k + k / 10))) = tf_bw f T b (k + 1) := by
  funext j
  unfold tf_u tf_bw
  by_cases h : j = 30 * b + k
  · subst h; rw [if_pos rfl, if_pos (by omega), show 30 * b + k - 30 * b = k by omega]
  · rw [if_neg h]
    by_cases h2 : 30 * b ≤ j ∧ j < 30 * b + k
    · rw [if_pos h2, if_pos (by omega)]
    · rw [if_neg h2, if_neg (by omega)]
def tf_bn (T : Nat → Nat) : Nat → Nat
  | 0 => 0
  | k + 1 => tf_bn T k + (if T (k + k / 10) = 46 then 0 else 1)
theorem tf_bn_s {T : Nat → Nat} {k : Nat} : tf_bn T (k + 1) = tf_bn T k + (if T (k + k / 10) = 46 then 0 else 1) := rfl
def s_board (A : tf_A) (b : Int32) : tf_Q := if ¬ b < 0 ∧ ¬ 4 ≤ b then (if tf_bf A.2.1 A.2.2.1 < 49 then (-20 - nI (tf_bf A.2.1 A.2.2.1), tA_t A A.2.1 0) else (nI (tf_bn A.2.1 30), tA_f (tA_t A A.2.1 0) (tf_bw A.1 A.2.1 b.toNatClampNeg 30))) else (-1, tA_ref A 1)
theorem tf_bf_le (T : Nat → Nat) (n : Nat) : tf_bf T n ≤ 49 := by unfold tf_bf; split; omega; split <;> omega
/-- no FAULT: each place of the board is a dot or a letter that did not come yet -/
theorem tf_bf_no {T : Nat → Nat} {n : Nat} (h : ¬ tf_bf T n < 49) : n = 32 ∧ ∀ k, k < 32 → tf_bb T n k = false := by
  unfold tf_bf at h
  have h1 := tf_fst_le (tf_bb T n) 32 0
  split at h
  · omega
  · next h2 =>
    split at h
    · omega
    · have h3 : ∀ k, k < 32 → tf_bb T n k = false := fun k hk => tf_fst_no (tf_bb T n) 32 0 k (Nat.zero_le _) (by omega)
      refine ⟨?_, h3⟩
      have h4 := h3 31 (by decide)
      unfold tf_bb at h4
      simp at h4
      omega
theorem tf_bb_v {T : Nat → Nat} {n k : Nat} (h : tf_bb T n k = false) (hk : k % 11 ≠ 10) : T k = 46 ∨ (97 ≤ T k ∧ T k ≤ 122 ∧ (tf_bs T k).testBit (T k - 97) = false) := by
  unfold tf_bb at h
  rw [if_neg hk] at h
  by_cases h1 : T k = 46
  · exact Or.inl h1
  · refine Or.inr ?_
    cases h2 : tf_lt (T k)
    · simp [h1, h2] at h
    · have := tf_lt_y h2
      simp [h1, h2] at h
      exact ⟨this.1, this.2, h.2⟩
def tf_tv2 (c : Nat) : Nat := if c = 60 then 26 else c - 97
def tf_tw (f T : Nat → Nat) (a n : Nat) : Nat → Nat := fun j => if a ≤ j ∧ j < a + n then tf_tv2 (T (j - a)) else f j
theorem tf_tw_0 {f T : Nat → Nat} {a : Nat} : tf_tw f T a 0 = f := by funext j; unfold tf_tw; rw [if_neg (by omega)]
theorem tf_tw_s {f T : Nat → Nat} {a k : Nat} : tf_u (tf_tw f T a k) (a + k) (tf_tv2 (T k)) = tf_tw f T a (k + 1) := by
  funext j
  unfold tf_u tf_tw
  by_cases h : j = a + k
  · subst h; rw [if_pos rfl, if_pos (by omega), show a + k - a = k by omega]
  · rw [if_neg h]
    by_cases h2 : a ≤ j ∧ j < a + k
    · rw [if_pos h2, if_pos (by omega)]
    · rw [if_neg h2, if_neg (by omega)]
theorem tf_lf_no {T : Nat → Nat} {n bk : Nat} (h : ¬ tf_lf T n bk < n) : ∀ k, k < n → (97 ≤ T k ∧ T k ≤ 122) ∨ (bk ≠ 0 ∧ T k = 60) := by
  intro k hk
  have h1 := tf_fst_le (tf_lb T bk) n 0
  have h2 := tf_fst_no (tf_lb T bk) n 0 k (Nat.zero_le _) (by unfold tf_lf at h; omega)
  unfold tf_lb at h2
  cases h3 : tf_lt (T k)
  · rw [h3] at h2
    simp at h2
    exact Or.inr h2
  · exact Or.inl (tf_lt_y h3)
theorem tf_lf_le (T : Nat → Nat) (n bk : Nat) : tf_lf T n bk ≤ n := by have := tf_fst_le (tf_lb T bk) n 0; unfold tf_lf; omega
def s_text (A : tf_A) (t : Nat) : tf_Q := if 40 < A.2.2.1 then (-6, tA_ref A 6) else if tf_lf A.2.1 A.2.2.1 (if t ≠ 0 then 0 else 1) < A.2.2.1 then (-20 - nI (tf_lf A.2.1 A.2.2.1 (if t ≠ 0 then 0 else 1)), tA_t A A.2.1 0) else (nI A.2.2.1, tA_f (tA_t A A.2.1 0) (tf_u (tf_tw A.1 A.2.1 (if t ≠ 0 then 144 else 184) A.2.2.1) (if t ≠ 0 then 364 else 365) A.2.2.1))
def s_word (A : tf_A) : tf_Q := if A.1 366 = 10 then (-6, tA_ref A 6) else if tf_lf A.2.1 A.2.2.1 0 < A.2.2.1 then (-20 - nI (tf_lf A.2.1 A.2.2.1 0), tA_t A A.2.1 0) else if A.2.2.1 < 2 ∨ 8 < A.2.2.1 then (-3, tA_ref (tA_t A A.2.1 0) 3) else (nI (A.1 366), tA_f (tA_t A A.2.1 0) (tf_u (tf_tw (tf_u (tf_u A.1 (224 + 10 * A.1 366) A.2.2.1) (224 + 10 * A.1 366 + 1) 0) A.2.1 (224 + 10 * A.1 366 + 2) A.2.2.1) 366 (A.1 366 + 1)))
theorem tf_sr1 {S : tf_Sg} {o k r : Nat} {a b : Int32} {F : Nat → Nat} (h : o ≠ r) : tf_set (tf_rw (tf_set S o k a) r F) o k b = tf_rw (tf_set S o k b) r F := by
  funext x j
  show (if x = o ∧ j = k then b else if x = r then nI (F j) else if x = o ∧ j = k then a else S x j) = (if x = r then nI (F j) else if x = o ∧ j = k then b else S x j)
  by_cases hx : x = o ∧ j = k
  · rw [if_pos hx, if_pos hx, if_neg (by rw [hx.1]; exact h)]
  · rw [if_neg hx, if_neg hx, if_neg hx]
theorem tf_set_id {S : tf_Sg} {o k : Nat} {a : Int32} (h : S o k = a) : tf_set S o k a = S := by
  funext x j
  show (if x = o ∧ j = k then a else S x j) = S x j
  by_cases q : x = o ∧ j = k
  · rw [if_pos q, q.1, q.2, h]
  · rw [if_neg q]
