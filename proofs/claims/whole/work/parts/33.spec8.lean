theorem tf_bp_c1 {S : tf_Sg} {a c k : Nat} {p : Nat → Nat} (hk : k < 30) (h : p k = 0) : tf_set (tf_bp S a c (tf_ct p k)) a k (-9) = tf_bp S a c (tf_ct p (k + 1)) := by
  have e : tf_ct p (k + 1) = tf_ct p k := by
    funext j
    unfold tf_ct
    by_cases h1 : j < k
    · rw [if_pos h1, if_pos (by omega)]
    · rw [if_neg h1]
      by_cases h2 : j < k + 1
      · rw [if_pos h2, show j = k by omega, h]
      · rw [if_neg h2]
  rw [e]
  apply tf_set_id
  show (if a = a ∧ k < 30 then tf_vo (tf_ct p k k) else _) = (-9 : Int32)
  rw [if_pos ⟨rfl, hk⟩, show tf_ct p k k = 0 from if_neg (by omega)]
  rfl
theorem tf_ct_kp {p : Nat → Nat} {k l j : Nat} (hp : p k = l + 1) (hj : j ≠ l) : tf_kp (tf_ct p (k + 1)) j = tf_kp (tf_ct p k) j := by
  have e : (fun i => tf_ct p (k + 1) i == j + 1) = fun i => tf_ct p k i == j + 1 := by
    funext i
    unfold tf_ct
    by_cases h1 : i < k
    · rw [if_pos h1, if_pos (by omega)]
    · rw [if_neg h1]
      by_cases h2 : i < k + 1
      · rw [if_pos h2, show i = k by omega, hp]
        rw [show (l + 1 == j + 1) = false by simp; omega]
        rfl
      · rw [if_neg h2]
  unfold tf_kp
  rw [e]
theorem tf_bp_c2 {S : tf_Sg} {a c k l : Nat} {p : Nat → Nat} (hac : a ≠ c) (hk : k < 30) (hl : l < 26) (h : p k = l + 1) (hd : ∀ j, j < k → p j ≠ l + 1) : tf_set (tf_set (tf_bp S a c (tf_ct p k)) a k (nI l)) c l (nI k) = tf_bp S a c (tf_ct p (k + 1)) := by
  funext x j
  show (if x = c ∧ j = l then nI k else if x = a ∧ j = k then nI l else if x = a ∧ j < 30 then tf_vo (tf_ct p k j) else if x = c ∧ j < 26 then tf_on 30 (tf_kp (tf_ct p k) j) else S x j) = (if x = a ∧ j < 30 then tf_vo (tf_ct p (k + 1) j) else if x = c ∧ j < 26 then tf_on 30 (tf_kp (tf_ct p (k + 1)) j) else S x j)
  have ca : ∀ i, i < k → tf_ct p (k + 1) i = p i := fun i hi => if_pos (by omega)
  by_cases h1 : x = a
  · have h2 : x ≠ c := fun q => hac (h1.symm.trans q)
    rw [if_neg (show ¬ (x = c ∧ j = l) from fun q => h2 q.1), if_neg (show ¬ (x = c ∧ j < 26) from fun q => h2 q.1), if_neg (show ¬ (x = c ∧ j < 26) from fun q => h2 q.1)]
    by_cases h3 : j = k
    · rw [if_pos (show x = a ∧ j = k from ⟨h1, h3⟩), if_pos (show x = a ∧ j < 30 from ⟨h1, by omega⟩), h3, show tf_ct p (k + 1) k = p k from if_pos (by omega), h]
      unfold tf_vo
      rw [if_neg (by omega)]
      rfl
    · have e : tf_ct p (k + 1) j = tf_ct p k j := by
        unfold tf_ct
        by_cases h4 : j < k
        · rw [if_pos h4, if_pos (by omega)]
        · rw [if_neg h4, if_neg (by omega)]
      rw [if_neg (show ¬ (x = a ∧ j = k) from fun q => h3 q.2), e]
  · rw [if_neg (show ¬ (x = a ∧ j = k) from fun q => h1 q.1), if_neg (show ¬ (x = a ∧ j < 30) from fun q => h1 q.1), if_neg (show ¬ (x = a ∧ j < 30) from fun q => h1 q.1)]
    by_cases h2 : x = c
    · by_cases h3 : j = l
      · have e : tf_kp (tf_ct p (k + 1)) l = k := tf_fst_eq _ (Nat.zero_le _) (by omega) (by rw [show tf_ct p (k + 1) k = p k from if_pos (by omega), h]; simp) (fun i _ hi => by rw [ca i hi]; simpa using hd i hi)
        rw [if_pos (show x = c ∧ j = l from ⟨h2, h3⟩), if_pos (show x = c ∧ j < 26 from ⟨h2, by omega⟩), h3, e, tf_on_y hk]
      · rw [if_neg (show ¬ (x = c ∧ j = l) from fun q => h3 q.2), tf_ct_kp h h3]
    · rw [if_neg (show ¬ (x = c ∧ j = l) from fun q => h2 q.1), if_neg (show ¬ (x = c ∧ j < 26) from fun q => h2 q.1), if_neg (show ¬ (x = c ∧ j < 26) from fun q => h2 q.1)]
theorem tf_bp_ct {S : tf_Sg} {a c : Nat} {p : Nat → Nat} : tf_bp S a c (tf_ct p 30) = tf_bp S a c p := by
  have e : ∀ j, j < 30 → tf_ct p 30 j = p j := fun j h => if_pos h
  have e2 : ∀ l, tf_kp (tf_ct p 30) l = tf_kp p l := by
    intro l
    unfold tf_kp
    have h1 : ∀ n k, k + n = 30 → tf_fst (fun i => tf_ct p 30 i == l + 1) n k = tf_fst (fun i => p i == l + 1) n k := by
      intro n
      induction n with
      | zero => intro k _; rfl
      | succ n ih =>
        intro k hk
        by_cases q : (p k == l + 1) = true
        · rw [tf_fst_y (P := fun i => p i == l + 1) q, tf_fst_y (P := fun i => tf_ct p 30 i == l + 1) (by rw [e k (by omega)]; exact q)]
        · rw [tf_fst_n (P := fun i => p i == l + 1) q, tf_fst_n (P := fun i => tf_ct p 30 i == l + 1) (by rw [e k (by omega)]; exact q), ih (k + 1) (by omega)]
    exact h1 30 0 rfl
  funext x j
  show (if x = a ∧ j < 30 then tf_vo (tf_ct p 30 j) else if x = c ∧ j < 26 then tf_on 30 (tf_kp (tf_ct p 30) j) else S x j) = (if x = a ∧ j < 30 then tf_vo (p j) else if x = c ∧ j < 26 then tf_on 30 (tf_kp p j) else S x j)
  rw [e2]
  by_cases h : x = a ∧ j < 30
  · rw [if_pos h, if_pos h, e j h.2]
  · rw [if_neg h, if_neg h]
