/-- a key takes a letter -/
def tf_lay (S : tf_Sg) (a c k v : Nat) : tf_Sg := if v = 0 then tf_set S a k (-9) else tf_set (tf_set S a k (nI (v - 1))) c (v - 1) (nI k)
theorem tf_lay_at {S : tf_Sg} {a c k v x j : Nat} : tf_lay S a c k v x j = if v ≠ 0 ∧ x = c ∧ j = v - 1 then nI k else if x = a ∧ j = k then tf_vo v else S x j := by
  unfold tf_lay tf_vo
  by_cases h : v = 0
  · rw [if_pos h, if_pos h, if_neg (show ¬ (v ≠ 0 ∧ x = c ∧ j = v - 1) from fun q => q.1 h)]
    rfl
  · rw [if_neg h, if_neg h]
    show (if x = c ∧ j = v - 1 then nI k else if x = a ∧ j = k then nI (v - 1) else S x j) = _
    by_cases h2 : x = c ∧ j = v - 1
    · rw [if_pos h2, if_pos ⟨h, h2⟩]
    · rw [if_neg h2, if_neg (show ¬ (v ≠ 0 ∧ x = c ∧ j = v - 1) from fun q => h2 q.2)]
def tf_pe (p : Nat → Nat) (x y : Nat) : Nat → Nat := tf_u (tf_u p x (p y)) y (p x)
theorem tf_pe_at {p : Nat → Nat} {x y j : Nat} : tf_pe p x y j = if j = y then p x else if j = x then p y else p j := rfl
theorem tf_inj {p : Nat → Nat} (hd : ∀ i j, i < j → j < 30 → p j ≠ 0 → p i ≠ p j) {i j : Nat} (hi : i < 30) (hj : j < 30) (h0 : p i ≠ 0) (h : p i = p j) : i = j := by
  rcases Nat.lt_trichotomy i j with q | q | q
  · exact absurd h (hd i j q hj (by omega))
  · exact q
  · exact absurd h.symm (hd j i q hi h0)
theorem tf_swp {S : tf_Sg} {a c x y : Nat} {p : Nat → Nat} (hac : a ≠ c) (hx : x < 30) (hy : y < 30) (hv : ∀ k, k < 30 → p k ≤ 26) (hd : ∀ i j, i < j → j < 30 → p j ≠ 0 → p i ≠ p j) : tf_lay (tf_lay (tf_bp S a c p) a c x (p y)) a c y (p x) = tf_bp S a c (tf_pe p x y) := by
  funext o j
  rw [tf_lay_at, tf_lay_at]
  show _ = (if o = a ∧ j < 30 then tf_vo (tf_pe p x y j) else if o = c ∧ j < 26 then tf_on 30 (tf_kp (tf_pe p x y) j) else S o j)
  rw [show tf_bp S a c p o j = if o = a ∧ j < 30 then tf_vo (p j) else if o = c ∧ j < 26 then tf_on 30 (tf_kp p j) else S o j from rfl]
  have vx := hv x hx
  have vy := hv y hy
  by_cases h1 : o = a
  · have h2 : o ≠ c := fun q => hac (h1.symm.trans q)
    rw [if_neg (show ¬ (p x ≠ 0 ∧ o = c ∧ j = p x - 1) from fun q => h2 q.2.1), if_neg (show ¬ (p y ≠ 0 ∧ o = c ∧ j = p y - 1) from fun q => h2 q.2.1), tf_pe_at]
    by_cases h3 : j = y
    · rw [if_pos ⟨h1, h3⟩, if_pos (show o = a ∧ j < 30 from ⟨h1, by omega⟩), if_pos h3]
    · rw [if_neg (show ¬ (o = a ∧ j = y) from fun q => h3 q.2), if_neg h3]
      by_cases h4 : j = x
      · rw [if_pos (show o = a ∧ j = x from ⟨h1, h4⟩), if_pos (show o = a ∧ j < 30 from ⟨h1, by omega⟩), if_pos h4]
      · rw [if_neg (show ¬ (o = a ∧ j = x) from fun q => h4 q.2), if_neg h4, if_neg (show ¬ (o = c ∧ j < 26) from fun q => h2 q.1)]
        by_cases h5 : o = a ∧ j < 30
        · rw [if_pos h5, if_pos h5]
        · rw [if_neg h5, if_neg h5, if_neg (show ¬ (o = c ∧ j < 26) from fun q => h2 q.1)]
  · rw [if_neg (show ¬ (o = a ∧ j = y) from fun q => h1 q.1), if_neg (show ¬ (o = a ∧ j = x) from fun q => h1 q.1), if_neg (show ¬ (o = a ∧ j < 30) from fun q => h1 q.1), if_neg (show ¬ (o = a ∧ j < 30) from fun q => h1 q.1)]
    by_cases h2 : o = c
    · by_cases h3 : p x = j + 1
      · have e : tf_kp (tf_pe p x y) j = y := tf_fst_eq _ (Nat.zero_le _) (by omega) (by rw [tf_pe_at, if_pos rfl, h3]; simp) (fun i _ hi => by
          rw [tf_pe_at, if_neg (by omega)]
          by_cases h4 : i = x
          · rw [if_pos h4]
            have : p y ≠ j + 1 := fun q => by have := tf_inj hd hx hy (by omega) (h3.trans q.symm); omega
            simpa using this
          · rw [if_neg h4]
            have : p i ≠ j + 1 := fun q => h4 (tf_inj hd (by omega) hx (by omega) (q.trans h3.symm))
            simpa using this)
        rw [if_pos (show p x ≠ 0 ∧ o = c ∧ j = p x - 1 from ⟨by omega, h2, by omega⟩), if_pos (show o = c ∧ j < 26 from ⟨h2, by omega⟩), e, tf_on_y hy]
      · rw [if_neg (show ¬ (p x ≠ 0 ∧ o = c ∧ j = p x - 1) from fun q => h3 (by have := q.1; have := q.2.2; omega))]
        by_cases h4 : p y = j + 1
        · have hxy : x ≠ y := fun q => h3 (by rw [q]; exact h4)
          have e : tf_kp (tf_pe p x y) j = x := tf_fst_eq _ (Nat.zero_le _) (by omega) (by rw [tf_pe_at, if_neg hxy, if_pos rfl, h4]; simp) (fun i _ hi => by
            rw [tf_pe_at]
            by_cases h5 : i = y
            · rw [if_pos h5]; simpa using h3
            · rw [if_neg h5, if_neg (by omega)]
              have : p i ≠ j + 1 := fun q => h5 (tf_inj hd (by omega) hy (by omega) (q.trans h4.symm))
              simpa using this)
          rw [if_pos (show p y ≠ 0 ∧ o = c ∧ j = p y - 1 from ⟨by omega, h2, by omega⟩), if_pos (show o = c ∧ j < 26 from ⟨h2, by omega⟩), e, tf_on_y hx]
        · have e : tf_kp (tf_pe p x y) j = tf_kp p j := by
            have e2 : (fun i => tf_pe p x y i == j + 1) = fun i => p i == j + 1 := by
              funext i
              rw [tf_pe_at]
              by_cases h5 : i = y
              · rw [if_pos h5, h5, show (p x == j + 1) = false by simpa using h3, show (p y == j + 1) = false by simpa using h4]
              · rw [if_neg h5]
                by_cases h6 : i = x
                · rw [if_pos h6, h6, show (p x == j + 1) = false by simpa using h3, show (p y == j + 1) = false by simpa using h4]
                · rw [if_neg h6]
            unfold tf_kp
            rw [e2]
          rw [if_neg (show ¬ (p y ≠ 0 ∧ o = c ∧ j = p y - 1) from fun q => h4 (by have := q.1; have := q.2.2; omega)), e]
    · rw [if_neg (show ¬ (p x ≠ 0 ∧ o = c ∧ j = p x - 1) from fun q => h2 q.2.1), if_neg (show ¬ (p y ≠ 0 ∧ o = c ∧ j = p y - 1) from fun q => h2 q.2.1), if_neg (show ¬ (o = c ∧ j < 26) from fun q => h2 q.1), if_neg (show ¬ (o = c ∧ j < 26) from fun q => h2 q.1)]
