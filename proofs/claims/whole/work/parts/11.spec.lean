/-! WHAT IS SAID OF THE ROW s OF THE REFERENCE, in natural numbers: f k is its k-th number -/
def tf_fi (k t : Nat) : Nat := if t ≠ 0 then (if k % 10 < 5 then 0 else 4) else if k % 10 < 4 then k % 10 else if k % 10 = 4 then 3 else if k % 10 < 7 then 4 else k % 10 - 2
def tf_la (p q t : Nat) : Nat := if p = q then 2 else if tf_fi p t = tf_fi q t then 3 else if tf_fi p t / 4 = tf_fi q t / 4 then 1 else 0
def tf_di (a b : Nat) : Nat := (a - b) + (b - a)
/-- GAP from a key to a key -/
def tf_ga (f : Nat → Nat) (h p q t : Nat) : Nat :=
  if tf_la p q t = 2 then f (120 + 6 * h + 2)
  else if tf_la p q t = 3 then f (120 + 6 * h + 3) + f (120 + 6 * h + 4) * (tf_di (p % 10) (q % 10) + tf_di (p / 10) (q / 10))
  else if tf_la p q t = 1 then f (120 + 6 * h + 1) + f (120 + 6 * h + 5) * tf_di (p / 10) (q / 10)
  else f (120 + 6 * h)
/-- the first place from k on, of m, that P holds of; else the end -/
def tf_fst (P : Nat → Bool) : Nat → Nat → Nat
  | 0, k => k
  | m + 1, k => if P k = true then k else tf_fst P m (k + 1)
theorem tf_fst_0 {P : Nat → Bool} {k : Nat} : tf_fst P 0 k = k := rfl
theorem tf_fst_y {P : Nat → Bool} {m k : Nat} (h : P k = true) : tf_fst P (m + 1) k = k := by unfold tf_fst; rw [if_pos h]
theorem tf_fst_n {P : Nat → Bool} {m k : Nat} (h : ¬ P k = true) : tf_fst P (m + 1) k = tf_fst P m (k + 1) := by conv => { lhs; unfold tf_fst }; rw [if_neg h]
/-- the KEY of a letter; 30: none -/
def tf_ke (f : Nat → Nat) (b l : Nat) : Nat := tf_fst (fun k => f (30 * b + k) == l + 1) 30 0
/-- a place or none, as it is answered -/
def tf_on (n k : Nat) : Int32 := if k < n then nI k else (-9)
theorem tf_fst_le (P : Nat → Bool) : ∀ m k, k ≤ tf_fst P m k ∧ tf_fst P m k ≤ k + m
  | 0, k => ⟨Nat.le_refl _, Nat.le_refl _⟩
  | m + 1, k => by
    unfold tf_fst
    have h := tf_fst_le P m (k + 1)
    split <;> omega
theorem tf_fst_at (P : Nat → Bool) : ∀ m k, tf_fst P m k < k + m → P (tf_fst P m k) = true
  | 0, k, h => by unfold tf_fst at h; omega
  | m + 1, k, h => by
    unfold tf_fst at h ⊢
    split
    · assumption
    · next hn =>
      rw [if_neg hn] at h
      exact tf_fst_at P m (k + 1) (by omega)
theorem tf_fst_no (P : Nat → Bool) : ∀ m k j, k ≤ j → j < tf_fst P m k → P j = false
  | 0, k, j, h1, h2 => by unfold tf_fst at h2; omega
  | m + 1, k, j, h1, h2 => by
    unfold tf_fst at h2
    split at h2
    · omega
    · next hn =>
      by_cases hj : j = k
      · subst hj
        simpa using hn
      · exact tf_fst_no P m (k + 1) j (by omega) h2
theorem tf_fst_eq (P : Nat → Bool) {m k j : Nat} (h1 : k ≤ j) (h2 : j < k + m) (h3 : P j = true) (h4 : ∀ i, k ≤ i → i < j → P i = false) : tf_fst P m k = j := by
  have h := tf_fst_le P m k
  rcases Nat.lt_trichotomy (tf_fst P m k) j with h5 | h5 | h5
  · have h6 := tf_fst_at P m k (by omega)
    rw [h4 _ h.1 h5] at h6
    cases h6
  · exact h5
  · rw [tf_fst_no P m k j h1 h5] at h3
    cases h3
theorem tf_fst_end (P : Nat → Bool) {m k : Nat} (h : ∀ i, k ≤ i → i < k + m → P i = false) : tf_fst P m k = k + m := by
  have h1 := tf_fst_le P m k
  rcases Nat.lt_or_ge (tf_fst P m k) (k + m) with h2 | h2
  · have h3 := tf_fst_at P m k h2
    rw [h _ h1.1 h2] at h3
    cases h3
  · omega
theorem tf_ke_le (f : Nat → Nat) (b l : Nat) : tf_ke f b l ≤ 30 := by have := tf_fst_le (fun k => f (30 * b + k) == l + 1) 30 0; unfold tf_ke; omega
theorem tf_fi_le (k t : Nat) : tf_fi k t < 8 := by unfold tf_fi; repeat (first | split | omega)
theorem tf_la_le (p q t : Nat) : tf_la p q t < 4 := by unfold tf_la; repeat (first | split | omega)
theorem tf_di_le {a b n : Nat} (ha : a < n) (hb : b < n) : tf_di a b < n := by unfold tf_di; omega
theorem tf_amt {a b : Nat} (ha : a < 1000000) (hb : b < 1000000) : (if nI a - nI b < 0 then -(nI a - nI b) else nI a - nI b) = nI (tf_di a b) := by
  unfold tf_di
  by_cases h : a < b
  · rw [if_pos (pk_sneg (by omega) h), show a - b = 0 by omega, Nat.zero_add]
    have : -(nI a - nI b) = nI b - nI a := by rw [Int32.neg_sub]
    rw [this, pk_sub (by omega)]
  · rw [pk_sub (by omega), if_neg (nI_pos (by omega)), show b - a = 0 by omega, Nat.add_zero]
/-- the shape of the reference -/
def tf_mo (G : tf_G) (o : Nat) : Prop := tf_tg G o = 8 ∧ (tf_rf G o 0 ≠ 0 ∧ tf_tg G (tf_rf G o 0) = 9 ∧ tf_ln G (tf_rf G o 0) = 7) ∧ (tf_rf G o 1 ≠ 0 ∧ tf_tg G (tf_rf G o 1) = 9 ∧ tf_ln G (tf_rf G o 1) = 368) ∧ (tf_rf G o 2 ≠ 0 ∧ tf_tg G (tf_rf G o 2) = 9 ∧ tf_ln G (tf_rf G o 2) = 368) ∧ (tf_rf G o 4 ≠ 0 ∧ tf_tg G (tf_rf G o 4) = 9 ∧ tf_ln G (tf_rf G o 4) = 48)
/-- the row s is f, of small numbers -/
def tf_sf (G : tf_G) (S : tf_Sg) (o : Nat) (f : Nat → Nat) : Prop := (∀ k, S (tf_rf G o 1) k = nI (f k)) ∧ ∀ k, f k < 10000
/-- what always holds of the row -/
def tf_gd (f : Nat → Nat) : Prop := (f 364 ≤ 40 ∧ f 365 ≤ 40 ∧ f 366 ≤ 10 ∧ f 367 ≤ 40) ∧ (∀ w, w < f 366 → 2 ≤ f (224 + 10 * w) ∧ f (224 + 10 * w) ≤ 8) ∧ (∀ i, i < f 364 → f (144 + i) < 26) ∧ (∀ i, i < f 365 → f (184 + i) ≤ 26) ∧ (∀ w, w < f 366 → ∀ j, j < f (224 + 10 * w) → f (224 + 10 * w + 2 + j) < 26) ∧ (∀ i, i < 24 → f (120 + i) ≤ 999) ∧ (∀ k, k < 120 → f k ≤ 26) ∧ (∀ b, b < 4 → ∀ k j, k < 30 → j < 30 → f (30 * b + k) = f (30 * b + j) → f (30 * b + k) ≠ 0 → k = j)
/-- a WORD stands at a place -/
def tf_sd (f : Nat → Nat) (w i : Nat) : Bool := decide (3 ≤ f (224 + 10 * w + 1)) && decide (i + f (224 + 10 * w) ≤ f 364) && decide (tf_fst (fun k => !(f (144 + i + k) == f (224 + 10 * w + 2 + k))) (f (224 + 10 * w)) 0 = f (224 + 10 * w))
def tf_sz (f : Nat → Nat) (w : Nat) : Nat := if w < 10 then f (224 + 10 * w) else 1
/-- the WORD of the PIECE that begins at a place; 10 or more: none -/
def tf_wl (f : Nat → Nat) (i : Nat) : Nat → Nat → Nat → Nat
  | 0, _, best => best
  | m + 1, w, best => tf_wl f i m (w + 1) (if tf_sd f w i = true ∧ (10 ≤ best ∨ tf_sz f best < tf_sz f w) then w else best)
def tf_wd (f : Nat → Nat) (i : Nat) : Nat := tf_wl f i (f 366) 0 10
def tf_np (f : Nat → Nat) : Nat → Nat → Nat
  | 0, _ => 0
  | m + 1, a => if a < f 364 then 1 + tf_np f m (a + tf_sz f (tf_wd f a)) else 0
/-- where the PIECE of a number begins; 40: none -/
def tf_pb (f : Nat → Nat) (i : Int32) : Nat → Nat → Nat → Nat
  | 0, _, _ => 40
  | m + 1, a, n => if a < f 364 then (if nI n = i then a else tf_pb f i m (a + tf_sz f (tf_wd f a)) (n + 1)) else 40
def tf_pa (f : Nat → Nat) (i : Int32) : Nat := tf_pb f i 40 0 0
/-- the GAP ahead of the i-th letter -/
def tf_gt (f : Nat → Nat) (h b i t : Nat) : Nat := if tf_ke f b (f (144 + i)) = 30 then 999 else if i = 0 ∨ tf_ke f b (f (144 + i - 1)) = 30 then f (120 + 6 * h) else tf_ga f h (tf_ke f b (f (144 + i - 1))) (tf_ke f b (f (144 + i))) t
/-- hundredths of a PIECE -/
def tf_pt (f : Nat → Nat) (w : Nat) : Nat := if w < 10 then 100 - 5 * (if f (224 + 10 * w + 1) ≤ 10 then f (224 + 10 * w + 1) else 10) else 100
def tf_ti (f : Nat → Nat) (h b t a p : Nat) : Nat → Nat → Nat
  | 0, _ => 0
  | m + 1, k => (if k = 0 then tf_gt f h b a t else tf_gt f h b (a + k) t * p / 100) + tf_ti f h b t a p m (k + 1)
def tf_tl (f : Nat → Nat) (h b t : Nat) : Nat → Nat → Nat
  | 0, _ => 0
  | m + 1, a => if a < f 364 then tf_ti f h b t a (tf_pt f (tf_wd f a)) (tf_sz f (tf_wd f a)) 0 + tf_tl f h b t m (a + tf_sz f (tf_wd f a)) else 0
/-- TIME -/
def tf_tm (f : Nat → Nat) (h b t : Nat) : Nat := tf_tl f h b t 40 0
theorem tf_on_y {n k : Nat} (h : k < n) : tf_on n k = nI k := by unfold tf_on; rw [if_pos h]
theorem tf_on_n {n k : Nat} (h : ¬ k < n) : tf_on n k = -9 := by unfold tf_on; rw [if_neg h]
theorem tf_wl_le (f : Nat → Nat) (i : Nat) : ∀ m w best, w + m ≤ f 366 → (best = 10 ∨ best < f 366) → tf_wl f i m w best = 10 ∨ tf_wl f i m w best < f 366
  | 0, _, best, _, hb => hb
  | m + 1, w, best, hm, hb => by
    unfold tf_wl
    refine tf_wl_le f i m (w + 1) _ (by omega) ?_
    split
    · exact Or.inr (by omega)
    · exact hb
theorem tf_wd_le (f : Nat → Nat) (i : Nat) : tf_wd f i = 10 ∨ tf_wd f i < f 366 := tf_wl_le f i (f 366) 0 10 (by omega) (Or.inl rfl)
theorem tf_sz_le {f : Nat → Nat} (hg : tf_gd f) {w : Nat} (h : w = 10 ∨ w < f 366) : 1 ≤ tf_sz f w ∧ tf_sz f w ≤ 8 := by
  have h0 := hg.1
  unfold tf_sz
  split
  · rcases h with h | h
    · omega
    · have := hg.2.1 w h
      omega
  · omega
theorem tf_ga_le {f : Nat → Nat} (hg : tf_gd f) {h p q t : Nat} (hh : h < 4) (hp : p < 30) (hq : q < 30) : tf_ga f h p q t ≤ 12000 := by
  have l := hg.2.2.2.2.2.1
  have d1 := tf_di_le (show p / 10 < 3 by omega) (show q / 10 < 3 by omega)
  have d2 := tf_di_le (show p % 10 < 10 by omega) (show q % 10 < 10 by omega)
  have a1 := l (6 * h) (by omega)
  have a2 := l (6 * h + 1) (by omega)
  have a3 := l (6 * h + 2) (by omega)
  have a4 := l (6 * h + 3) (by omega)
  have a5 := l (6 * h + 4) (by omega)
  have a6 := l (6 * h + 5) (by omega)
  rw [← Nat.add_assoc] at a2 a3 a4 a5 a6
  have m1 := Nat.mul_le_mul a5 (show tf_di (p % 10) (q % 10) + tf_di (p / 10) (q / 10) ≤ 11 by omega)
  have m2 := Nat.mul_le_mul a6 (show tf_di (p / 10) (q / 10) ≤ 2 by omega)
  unfold tf_ga
  repeat (first | split | omega)
theorem tf_gt_le {f : Nat → Nat} (hg : tf_gd f) {h b i t : Nat} (hh : h < 4) : tf_gt f h b i t ≤ 12000 := by
  have l := hg.2.2.2.2.2.1 (6 * h) (by omega)
  unfold tf_gt
  split
  · omega
  · split
    · omega
    · next h1 h2 =>
      have k1 := tf_ke_le f b (f (144 + i))
      have k2 := tf_ke_le f b (f (144 + i - 1))
      have h3 : ¬ tf_ke f b (f (144 + i - 1)) = 30 := fun q => h2 (Or.inr q)
      exact tf_ga_le hg hh (by omega) (by omega)
theorem tf_wl_s {f : Nat → Nat} {i m w best : Nat} : tf_wl f i (m + 1) w best = tf_wl f i m (w + 1) (if tf_sd f w i = true ∧ (10 ≤ best ∨ tf_sz f best < tf_sz f w) then w else best) := rfl
theorem tf_np_s {f : Nat → Nat} {m a : Nat} : tf_np f (m + 1) a = if a < f 364 then 1 + tf_np f m (a + tf_sz f (tf_wd f a)) else 0 := rfl
theorem tf_pb_s {f : Nat → Nat} {i : Int32} {m a n : Nat} : tf_pb f i (m + 1) a n = if a < f 364 then (if nI n = i then a else tf_pb f i m (a + tf_sz f (tf_wd f a)) (n + 1)) else 40 := rfl
theorem tf_ti_s {f : Nat → Nat} {h b t a p m k : Nat} : tf_ti f h b t a p (m + 1) k = (if k = 0 then tf_gt f h b a t else tf_gt f h b (a + k) t * p / 100) + tf_ti f h b t a p m (k + 1) := rfl
theorem tf_tl_s {f : Nat → Nat} {h b t m a : Nat} : tf_tl f h b t (m + 1) a = if a < f 364 then tf_ti f h b t a (tf_pt f (tf_wd f a)) (tf_sz f (tf_wd f a)) 0 + tf_tl f h b t m (a + tf_sz f (tf_wd f a)) else 0 := rfl
theorem tf_wl_sd (f : Nat → Nat) (i : Nat) : ∀ m w best, (best = 10 ∨ tf_sd f best i = true) → tf_wl f i m w best = 10 ∨ tf_sd f (tf_wl f i m w best) i = true
  | 0, _, _, hb => hb
  | m + 1, w, best, hb => by
    rw [tf_wl_s]
    refine tf_wl_sd f i m (w + 1) _ ?_
    split
    · next h => exact Or.inr h.1
    · exact hb
theorem tf_wd_in {f : Nat → Nat} (hg : tf_gd f) {i : Nat} (hi : i < f 364) : i + tf_sz f (tf_wd f i) ≤ f 364 := by
  rcases tf_wl_sd f i (f 366) 0 10 (Or.inl rfl) with h | h
  · unfold tf_wd
    rw [h]
    unfold tf_sz
    rw [if_neg (by omega)]
    omega
  · have h2 : tf_sd f (tf_wd f i) i = true := h
    unfold tf_sz
    split
    · unfold tf_sd at h2
      simp only [Bool.and_eq_true, decide_eq_true_eq] at h2
      omega
    · omega
