set_option maxHeartbeats 4000000 in
theorem tf_cz_eq (f : Nat → Nat) (b : Nat) : tf_cz (fun h => tf_fa f h b) 3 1 0 (tf_fa f 0 b) = if tf_nu f b (tf_nb f b 3 1 0) 4 0 = true then nI (tf_nb f b 3 1 0) else -9 := by
  rcases Nat.lt_trichotomy (tf_fa f 1 b) (tf_fa f 0 b) with h1 | h1 | h1
  · skip
    rcases Nat.lt_trichotomy (tf_fa f 2 b) (tf_fa f 1 b) with h2 | h2 | h2
    · skip
      rcases Nat.lt_trichotomy (tf_fa f 3 b) (tf_fa f 2 b) with h3 | h3 | h3
      · skip
        have c0 : tf_cz (fun h => tf_fa f h b) 3 1 0 (tf_fa f 0 b) = nI 3 := by rw [tf_cz_s, if_pos (show tf_fa f 1 b < tf_fa f 0 b from h1), tf_cz_s, if_pos (show tf_fa f 2 b < tf_fa f 1 b from h2), tf_cz_s, if_pos (show tf_fa f 3 b < tf_fa f 2 b from h3)]; rfl
        have c1 : tf_nb f b 3 1 0 = 3 := by rw [tf_nb_s, if_pos (show tf_fa f 1 b < tf_fa f 0 b from h1), tf_nb_s, if_pos (show tf_fa f 2 b < tf_fa f 1 b from h2), tf_nb_s, if_pos (show tf_fa f 3 b < tf_fa f 2 b from h3)]; rfl
        have c2 : tf_nu f b 3 4 0 = true := by rw [tf_nu_s, if_neg (show ¬ (0 ≠ 3 ∧ tf_fa f 0 b = tf_fa f 3 b) from fun z => by have := z.2; omega), tf_nu_s, if_neg (show ¬ (1 ≠ 3 ∧ tf_fa f 1 b = tf_fa f 3 b) from fun z => by have := z.2; omega), tf_nu_s, if_neg (show ¬ (2 ≠ 3 ∧ tf_fa f 2 b = tf_fa f 3 b) from fun z => by have := z.2; omega), tf_nu_s, if_neg (show ¬ (3 ≠ 3 ∧ tf_fa f 3 b = tf_fa f 3 b) from fun z => z.1 rfl)]; rfl
        rw [c0, c1, c2]
        rw [if_pos rfl]
      · skip
        have c0 : tf_cz (fun h => tf_fa f h b) 3 1 0 (tf_fa f 0 b) = -9 := by rw [tf_cz_s, if_pos (show tf_fa f 1 b < tf_fa f 0 b from h1), tf_cz_s, if_pos (show tf_fa f 2 b < tf_fa f 1 b from h2), tf_cz_s, if_neg (show ¬ tf_fa f 3 b < tf_fa f 2 b by omega), if_pos (show tf_fa f 3 b = tf_fa f 2 b from h3)]; rfl
        have c1 : tf_nb f b 3 1 0 = 2 := by rw [tf_nb_s, if_pos (show tf_fa f 1 b < tf_fa f 0 b from h1), tf_nb_s, if_pos (show tf_fa f 2 b < tf_fa f 1 b from h2), tf_nb_s, if_neg (show ¬ tf_fa f 3 b < tf_fa f 2 b by omega)]; rfl
        have c2 : tf_nu f b 2 4 0 = false := by rw [tf_nu_s, if_neg (show ¬ (0 ≠ 2 ∧ tf_fa f 0 b = tf_fa f 2 b) from fun z => by have := z.2; omega), tf_nu_s, if_neg (show ¬ (1 ≠ 2 ∧ tf_fa f 1 b = tf_fa f 2 b) from fun z => by have := z.2; omega), tf_nu_s, if_neg (show ¬ (2 ≠ 2 ∧ tf_fa f 2 b = tf_fa f 2 b) from fun z => z.1 rfl), tf_nu_s, if_pos (show 3 ≠ 2 ∧ tf_fa f 3 b = tf_fa f 2 b from ⟨by decide, by omega⟩)]
        rw [c0, c1, c2]
        rw [if_neg (by decide)]
      · skip
        have c0 : tf_cz (fun h => tf_fa f h b) 3 1 0 (tf_fa f 0 b) = nI 2 := by rw [tf_cz_s, if_pos (show tf_fa f 1 b < tf_fa f 0 b from h1), tf_cz_s, if_pos (show tf_fa f 2 b < tf_fa f 1 b from h2), tf_cz_s, if_neg (show ¬ tf_fa f 3 b < tf_fa f 2 b by omega), if_neg (show ¬ tf_fa f 3 b = tf_fa f 2 b by omega)]; rfl
        have c1 : tf_nb f b 3 1 0 = 2 := by rw [tf_nb_s, if_pos (show tf_fa f 1 b < tf_fa f 0 b from h1), tf_nb_s, if_pos (show tf_fa f 2 b < tf_fa f 1 b from h2), tf_nb_s, if_neg (show ¬ tf_fa f 3 b < tf_fa f 2 b by omega)]; rfl
        have c2 : tf_nu f b 2 4 0 = true := by rw [tf_nu_s, if_neg (show ¬ (0 ≠ 2 ∧ tf_fa f 0 b = tf_fa f 2 b) from fun z => by have := z.2; omega), tf_nu_s, if_neg (show ¬ (1 ≠ 2 ∧ tf_fa f 1 b = tf_fa f 2 b) from fun z => by have := z.2; omega), tf_nu_s, if_neg (show ¬ (2 ≠ 2 ∧ tf_fa f 2 b = tf_fa f 2 b) from fun z => z.1 rfl), tf_nu_s, if_neg (show ¬ (3 ≠ 2 ∧ tf_fa f 3 b = tf_fa f 2 b) from fun z => by have := z.2; omega)]; rfl
        rw [c0, c1, c2]
        rw [if_pos rfl]
    · skip
      rcases Nat.lt_trichotomy (tf_fa f 3 b) (tf_fa f 1 b) with h3 | h3 | h3
      · skip
        have c0 : tf_cz (fun h => tf_fa f h b) 3 1 0 (tf_fa f 0 b) = nI 3 := by rw [tf_cz_s, if_pos (show tf_fa f 1 b < tf_fa f 0 b from h1), tf_cz_s, if_neg (show ¬ tf_fa f 2 b < tf_fa f 1 b by omega), if_pos (show tf_fa f 2 b = tf_fa f 1 b from h2), tf_cz_s, if_pos (show tf_fa f 3 b < tf_fa f 1 b from h3)]; rfl
        have c1 : tf_nb f b 3 1 0 = 3 := by rw [tf_nb_s, if_pos (show tf_fa f 1 b < tf_fa f 0 b from h1), tf_nb_s, if_neg (show ¬ tf_fa f 2 b < tf_fa f 1 b by omega), tf_nb_s, if_pos (show tf_fa f 3 b < tf_fa f 1 b from h3)]; rfl
        have c2 : tf_nu f b 3 4 0 = true := by rw [tf_nu_s, if_neg (show ¬ (0 ≠ 3 ∧ tf_fa f 0 b = tf_fa f 3 b) from fun z => by have := z.2; omega), tf_nu_s, if_neg (show ¬ (1 ≠ 3 ∧ tf_fa f 1 b = tf_fa f 3 b) from fun z => by have := z.2; omega), tf_nu_s, if_neg (show ¬ (2 ≠ 3 ∧ tf_fa f 2 b = tf_fa f 3 b) from fun z => by have := z.2; omega), tf_nu_s, if_neg (show ¬ (3 ≠ 3 ∧ tf_fa f 3 b = tf_fa f 3 b) from fun z => z.1 rfl)]; rfl
        rw [c0, c1, c2]
        rw [if_pos rfl]
      · skip
        have c0 : tf_cz (fun h => tf_fa f h b) 3 1 0 (tf_fa f 0 b) = -9 := by rw [tf_cz_s, if_pos (show tf_fa f 1 b < tf_fa f 0 b from h1), tf_cz_s, if_neg (show ¬ tf_fa f 2 b < tf_fa f 1 b by omega), if_pos (show tf_fa f 2 b = tf_fa f 1 b from h2), tf_cz_s, if_neg (show ¬ tf_fa f 3 b < tf_fa f 1 b by omega), if_pos (show tf_fa f 3 b = tf_fa f 1 b from h3)]; rfl
        have c1 : tf_nb f b 3 1 0 = 1 := by rw [tf_nb_s, if_pos (show tf_fa f 1 b < tf_fa f 0 b from h1), tf_nb_s, if_neg (show ¬ tf_fa f 2 b < tf_fa f 1 b by omega), tf_nb_s, if_neg (show ¬ tf_fa f 3 b < tf_fa f 1 b by omega)]; rfl
        have c2 : tf_nu f b 1 4 0 = false := by rw [tf_nu_s, if_neg (show ¬ (0 ≠ 1 ∧ tf_fa f 0 b = tf_fa f 1 b) from fun z => by have := z.2; omega), tf_nu_s, if_neg (show ¬ (1 ≠ 1 ∧ tf_fa f 1 b = tf_fa f 1 b) from fun z => z.1 rfl), tf_nu_s, if_pos (show 2 ≠ 1 ∧ tf_fa f 2 b = tf_fa f 1 b from ⟨by decide, by omega⟩)]
        rw [c0, c1, c2]
        rw [if_neg (by decide)]
      · skip
        have c0 : tf_cz (fun h => tf_fa f h b) 3 1 0 (tf_fa f 0 b) = -9 := by rw [tf_cz_s, if_pos (show tf_fa f 1 b < tf_fa f 0 b from h1), tf_cz_s, if_neg (show ¬ tf_fa f 2 b < tf_fa f 1 b by omega), if_pos (show tf_fa f 2 b = tf_fa f 1 b from h2), tf_cz_s, if_neg (show ¬ tf_fa f 3 b < tf_fa f 1 b by omega), if_neg (show ¬ tf_fa f 3 b = tf_fa f 1 b by omega)]; rfl
        have c1 : tf_nb f b 3 1 0 = 1 := by rw [tf_nb_s, if_pos (show tf_fa f 1 b < tf_fa f 0 b from h1), tf_nb_s, if_neg (show ¬ tf_fa f 2 b < tf_fa f 1 b by omega), tf_nb_s, if_neg (show ¬ tf_fa f 3 b < tf_fa f 1 b by omega)]; rfl
        have c2 : tf_nu f b 1 4 0 = false := by rw [tf_nu_s, if_neg (show ¬ (0 ≠ 1 ∧ tf_fa f 0 b = tf_fa f 1 b) from fun z => by have := z.2; omega), tf_nu_s, if_neg (show ¬ (1 ≠ 1 ∧ tf_fa f 1 b = tf_fa f 1 b) from fun z => z.1 rfl), tf_nu_s, if_pos (show 2 ≠ 1 ∧ tf_fa f 2 b = tf_fa f 1 b from ⟨by decide, by omega⟩)]
        rw [c0, c1, c2]
        rw [if_neg (by decide)]
    · skip
      rcases Nat.lt_trichotomy (tf_fa f 3 b) (tf_fa f 1 b) with h3 | h3 | h3
      · skip
        have c0 : tf_cz (fun h => tf_fa f h b) 3 1 0 (tf_fa f 0 b) = nI 3 := by rw [tf_cz_s, if_pos (show tf_fa f 1 b < tf_fa f 0 b from h1), tf_cz_s, if_neg (show ¬ tf_fa f 2 b < tf_fa f 1 b by omega), if_neg (show ¬ tf_fa f 2 b = tf_fa f 1 b by omega), tf_cz_s, if_pos (show tf_fa f 3 b < tf_fa f 1 b from h3)]; rfl
        have c1 : tf_nb f b 3 1 0 = 3 := by rw [tf_nb_s, if_pos (show tf_fa f 1 b < tf_fa f 0 b from h1), tf_nb_s, if_neg (show ¬ tf_fa f 2 b < tf_fa f 1 b by omega), tf_nb_s, if_pos (show tf_fa f 3 b < tf_fa f 1 b from h3)]; rfl
        have c2 : tf_nu f b 3 4 0 = true := by rw [tf_nu_s, if_neg (show ¬ (0 ≠ 3 ∧ tf_fa f 0 b = tf_fa f 3 b) from fun z => by have := z.2; omega), tf_nu_s, if_neg (show ¬ (1 ≠ 3 ∧ tf_fa f 1 b = tf_fa f 3 b) from fun z => by have := z.2; omega), tf_nu_s, if_neg (show ¬ (2 ≠ 3 ∧ tf_fa f 2 b = tf_fa f 3 b) from fun z => by have := z.2; omega), tf_nu_s, if_neg (show ¬ (3 ≠ 3 ∧ tf_fa f 3 b = tf_fa f 3 b) from fun z => z.1 rfl)]; rfl
        rw [c0, c1, c2]
        rw [if_pos rfl]
      · skip
        have c0 : tf_cz (fun h => tf_fa f h b) 3 1 0 (tf_fa f 0 b) = -9 := by rw [tf_cz_s, if_pos (show tf_fa f 1 b < tf_fa f 0 b from h1), tf_cz_s, if_neg (show ¬ tf_fa f 2 b < tf_fa f 1 b by omega), if_neg (show ¬ tf_fa f 2 b = tf_fa f 1 b by omega), tf_cz_s, if_neg (show ¬ tf_fa f 3 b < tf_fa f 1 b by omega), if_pos (show tf_fa f 3 b = tf_fa f 1 b from h3)]; rfl
        have c1 : tf_nb f b 3 1 0 = 1 := by rw [tf_nb_s, if_pos (show tf_fa f 1 b < tf_fa f 0 b from h1), tf_nb_s, if_neg (show ¬ tf_fa f 2 b < tf_fa f 1 b by omega), tf_nb_s, if_neg (show ¬ tf_fa f 3 b < tf_fa f 1 b by omega)]; rfl
        have c2 : tf_nu f b 1 4 0 = false := by rw [tf_nu_s, if_neg (show ¬ (0 ≠ 1 ∧ tf_fa f 0 b = tf_fa f 1 b) from fun z => by have := z.2; omega), tf_nu_s, if_neg (show ¬ (1 ≠ 1 ∧ tf_fa f 1 b = tf_fa f 1 b) from fun z => z.1 rfl), tf_nu_s, if_neg (show ¬ (2 ≠ 1 ∧ tf_fa f 2 b = tf_fa f 1 b) from fun z => by have := z.2; omega), tf_nu_s, if_pos (show 3 ≠ 1 ∧ tf_fa f 3 b = tf_fa f 1 b from ⟨by decide, by omega⟩)]
        rw [c0, c1, c2]
        rw [if_neg (by decide)]
      · skip
        have c0 : tf_cz (fun h => tf_fa f h b) 3 1 0 (tf_fa f 0 b) = nI 1 := by rw [tf_cz_s, if_pos (show tf_fa f 1 b < tf_fa f 0 b from h1), tf_cz_s, if_neg (show ¬ tf_fa f 2 b < tf_fa f 1 b by omega), if_neg (show ¬ tf_fa f 2 b = tf_fa f 1 b by omega), tf_cz_s, if_neg (show ¬ tf_fa f 3 b < tf_fa f 1 b by omega), if_neg (show ¬ tf_fa f 3 b = tf_fa f 1 b by omega)]; rfl
        have c1 : tf_nb f b 3 1 0 = 1 := by rw [tf_nb_s, if_pos (show tf_fa f 1 b < tf_fa f 0 b from h1), tf_nb_s, if_neg (show ¬ tf_fa f 2 b < tf_fa f 1 b by omega), tf_nb_s, if_neg (show ¬ tf_fa f 3 b < tf_fa f 1 b by omega)]; rfl
        have c2 : tf_nu f b 1 4 0 = true := by rw [tf_nu_s, if_neg (show ¬ (0 ≠ 1 ∧ tf_fa f 0 b = tf_fa f 1 b) from fun z => by have := z.2; omega), tf_nu_s, if_neg (show ¬ (1 ≠ 1 ∧ tf_fa f 1 b = tf_fa f 1 b) from fun z => z.1 rfl), tf_nu_s, if_neg (show ¬ (2 ≠ 1 ∧ tf_fa f 2 b = tf_fa f 1 b) from fun z => by have := z.2; omega), tf_nu_s, if_neg (show ¬ (3 ≠ 1 ∧ tf_fa f 3 b = tf_fa f 1 b) from fun z => by have := z.2; omega)]; rfl
        rw [c0, c1, c2]
        rw [if_pos rfl]
  · skip
    rcases Nat.lt_trichotomy (tf_fa f 2 b) (tf_fa f 0 b) with h2 | h2 | h2
    · skip
      rcases Nat.lt_trichotomy (tf_fa f 3 b) (tf_fa f 2 b) with h3 | h3 | h3
      · skip
        have c0 : tf_cz (fun h => tf_fa f h b) 3 1 0 (tf_fa f 0 b) = nI 3 := by rw [tf_cz_s, if_neg (show ¬ tf_fa f 1 b < tf_fa f 0 b by omega), if_pos (show tf_fa f 1 b = tf_fa f 0 b from h1), tf_cz_s, if_pos (show tf_fa f 2 b < tf_fa f 0 b from h2), tf_cz_s, if_pos (show tf_fa f 3 b < tf_fa f 2 b from h3)]; rfl
        have c1 : tf_nb f b 3 1 0 = 3 := by rw [tf_nb_s, if_neg (show ¬ tf_fa f 1 b < tf_fa f 0 b by omega), tf_nb_s, if_pos (show tf_fa f 2 b < tf_fa f 0 b from h2), tf_nb_s, if_pos (show tf_fa f 3 b < tf_fa f 2 b from h3)]; rfl
        have c2 : tf_nu f b 3 4 0 = true := by rw [tf_nu_s, if_neg (show ¬ (0 ≠ 3 ∧ tf_fa f 0 b = tf_fa f 3 b) from fun z => by have := z.2; omega), tf_nu_s, if_neg (show ¬ (1 ≠ 3 ∧ tf_fa f 1 b = tf_fa f 3 b) from fun z => by have := z.2; omega), tf_nu_s, if_neg (show ¬ (2 ≠ 3 ∧ tf_fa f 2 b = tf_fa f 3 b) from fun z => by have := z.2; omega), tf_nu_s, if_neg (show ¬ (3 ≠ 3 ∧ tf_fa f 3 b = tf_fa f 3 b) from fun z => z.1 rfl)]; rfl
        rw [c0, c1, c2]
        rw [if_pos rfl]
      · skip
        have c0 : tf_cz (fun h => tf_fa f h b) 3 1 0 (tf_fa f 0 b) = -9 := by rw [tf_cz_s, if_neg (show ¬ tf_fa f 1 b < tf_fa f 0 b by omega), if_pos (show tf_fa f 1 b = tf_fa f 0 b from h1), tf_cz_s, if_pos (show tf_fa f 2 b < tf_fa f 0 b from h2), tf_cz_s, if_neg (show ¬ tf_fa f 3 b < tf_fa f 2 b by omega), if_pos (show tf_fa f 3 b = tf_fa f 2 b from h3)]; rfl
        have c1 : tf_nb f b 3 1 0 = 2 := by rw [tf_nb_s, if_neg (show ¬ tf_fa f 1 b < tf_fa f 0 b by omega), tf_nb_s, if_pos (show tf_fa f 2 b < tf_fa f 0 b from h2), tf_nb_s, if_neg (show ¬ tf_fa f 3 b < tf_fa f 2 b by omega)]; rfl
        have c2 : tf_nu f b 2 4 0 = false := by rw [tf_nu_s, if_neg (show ¬ (0 ≠ 2 ∧ tf_fa f 0 b = tf_fa f 2 b) from fun z => by have := z.2; omega), tf_nu_s, if_neg (show ¬ (1 ≠ 2 ∧ tf_fa f 1 b = tf_fa f 2 b) from fun z => by have := z.2; omega), tf_nu_s, if_neg (show ¬ (2 ≠ 2 ∧ tf_fa f 2 b = tf_fa f 2 b) from fun z => z.1 rfl), tf_nu_s, if_pos (show 3 ≠ 2 ∧ tf_fa f 3 b = tf_fa f 2 b from ⟨by decide, by omega⟩)]
        rw [c0, c1, c2]
        rw [if_neg (by decide)]
      · skip
        have c0 : tf_cz (fun h => tf_fa f h b) 3 1 0 (tf_fa f 0 b) = nI 2 := by rw [tf_cz_s, if_neg (show ¬ tf_fa f 1 b < tf_fa f 0 b by omega), if_pos (show tf_fa f 1 b = tf_fa f 0 b from h1), tf_cz_s, if_pos (show tf_fa f 2 b < tf_fa f 0 b from h2), tf_cz_s, if_neg (show ¬ tf_fa f 3 b < tf_fa f 2 b by omega), if_neg (show ¬ tf_fa f 3 b = tf_fa f 2 b by omega)]; rfl
        have c1 : tf_nb f b 3 1 0 = 2 := by rw [tf_nb_s, if_neg (show ¬ tf_fa f 1 b < tf_fa f 0 b by omega), tf_nb_s, if_pos (show tf_fa f 2 b < tf_fa f 0 b from h2), tf_nb_s, if_neg (show ¬ tf_fa f 3 b < tf_fa f 2 b by omega)]; rfl
        have c2 : tf_nu f b 2 4 0 = true := by rw [tf_nu_s, if_neg (show ¬ (0 ≠ 2 ∧ tf_fa f 0 b = tf_fa f 2 b) from fun z => by have := z.2; omega), tf_nu_s, if_neg (show ¬ (1 ≠ 2 ∧ tf_fa f 1 b = tf_fa f 2 b) from fun z => by have := z.2; omega), tf_nu_s, if_neg (show ¬ (2 ≠ 2 ∧ tf_fa f 2 b = tf_fa f 2 b) from fun z => z.1 rfl), tf_nu_s, if_neg (show ¬ (3 ≠ 2 ∧ tf_fa f 3 b = tf_fa f 2 b) from fun z => by have := z.2; omega)]; rfl
        rw [c0, c1, c2]
        rw [if_pos rfl]
    · skip
      rcases Nat.lt_trichotomy (tf_fa f 3 b) (tf_fa f 0 b) with h3 | h3 | h3
      · skip
        have c0 : tf_cz (fun h => tf_fa f h b) 3 1 0 (tf_fa f 0 b) = nI 3 := by rw [tf_cz_s, if_neg (show ¬ tf_fa f 1 b < tf_fa f 0 b by omega), if_pos (show tf_fa f 1 b = tf_fa f 0 b from h1), tf_cz_s, if_neg (show ¬ tf_fa f 2 b < tf_fa f 0 b by omega), if_pos (show tf_fa f 2 b = tf_fa f 0 b from h2), tf_cz_s, if_pos (show tf_fa f 3 b < tf_fa f 0 b from h3)]; rfl
        have c1 : tf_nb f b 3 1 0 = 3 := by rw [tf_nb_s, if_neg (show ¬ tf_fa f 1 b < tf_fa f 0 b by omega), tf_nb_s, if_neg (show ¬ tf_fa f 2 b < tf_fa f 0 b by omega), tf_nb_s, if_pos (show tf_fa f 3 b < tf_fa f 0 b from h3)]; rfl
        have c2 : tf_nu f b 3 4 0 = true := by rw [tf_nu_s, if_neg (show ¬ (0 ≠ 3 ∧ tf_fa f 0 b = tf_fa f 3 b) from fun z => by have := z.2; omega), tf_nu_s, if_neg (show ¬ (1 ≠ 3 ∧ tf_fa f 1 b = tf_fa f 3 b) from fun z => by have := z.2; omega), tf_nu_s, if_neg (show ¬ (2 ≠ 3 ∧ tf_fa f 2 b = tf_fa f 3 b) from fun z => by have := z.2; omega), tf_nu_s, if_neg (show ¬ (3 ≠ 3 ∧ tf_fa f 3 b = tf_fa f 3 b) from fun z => z.1 rfl)]; rfl
        rw [c0, c1, c2]
        rw [if_pos rfl]
      · skip
        have c0 : tf_cz (fun h => tf_fa f h b) 3 1 0 (tf_fa f 0 b) = -9 := by rw [tf_cz_s, if_neg (show ¬ tf_fa f 1 b < tf_fa f 0 b by omega), if_pos (show tf_fa f 1 b = tf_fa f 0 b from h1), tf_cz_s, if_neg (show ¬ tf_fa f 2 b < tf_fa f 0 b by omega), if_pos (show tf_fa f 2 b = tf_fa f 0 b from h2), tf_cz_s, if_neg (show ¬ tf_fa f 3 b < tf_fa f 0 b by omega), if_pos (show tf_fa f 3 b = tf_fa f 0 b from h3)]; rfl
        have c1 : tf_nb f b 3 1 0 = 0 := by rw [tf_nb_s, if_neg (show ¬ tf_fa f 1 b < tf_fa f 0 b by omega), tf_nb_s, if_neg (show ¬ tf_fa f 2 b < tf_fa f 0 b by omega), tf_nb_s, if_neg (show ¬ tf_fa f 3 b < tf_fa f 0 b by omega)]; rfl
        have c2 : tf_nu f b 0 4 0 = false := by rw [tf_nu_s, if_neg (show ¬ (0 ≠ 0 ∧ tf_fa f 0 b = tf_fa f 0 b) from fun z => z.1 rfl), tf_nu_s, if_pos (show 1 ≠ 0 ∧ tf_fa f 1 b = tf_fa f 0 b from ⟨by decide, by omega⟩)]
        rw [c0, c1, c2]
        rw [if_neg (by decide)]
      · skip
        have c0 : tf_cz (fun h => tf_fa f h b) 3 1 0 (tf_fa f 0 b) = -9 := by rw [tf_cz_s, if_neg (show ¬ tf_fa f 1 b < tf_fa f 0 b by omega), if_pos (show tf_fa f 1 b = tf_fa f 0 b from h1), tf_cz_s, if_neg (show ¬ tf_fa f 2 b < tf_fa f 0 b by omega), if_pos (show tf_fa f 2 b = tf_fa f 0 b from h2), tf_cz_s, if_neg (show ¬ tf_fa f 3 b < tf_fa f 0 b by omega), if_neg (show ¬ tf_fa f 3 b = tf_fa f 0 b by omega)]; rfl
        have c1 : tf_nb f b 3 1 0 = 0 := by rw [tf_nb_s, if_neg (show ¬ tf_fa f 1 b < tf_fa f 0 b by omega), tf_nb_s, if_neg (show ¬ tf_fa f 2 b < tf_fa f 0 b by omega), tf_nb_s, if_neg (show ¬ tf_fa f 3 b < tf_fa f 0 b by omega)]; rfl
        have c2 : tf_nu f b 0 4 0 = false := by rw [tf_nu_s, if_neg (show ¬ (0 ≠ 0 ∧ tf_fa f 0 b = tf_fa f 0 b) from fun z => z.1 rfl), tf_nu_s, if_pos (show 1 ≠ 0 ∧ tf_fa f 1 b = tf_fa f 0 b from ⟨by decide, by omega⟩)]
        rw [c0, c1, c2]
        rw [if_neg (by decide)]
    · skip
      rcases Nat.lt_trichotomy (tf_fa f 3 b) (tf_fa f 0 b) with h3 | h3 | h3
      · skip
        have c0 : tf_cz (fun h => tf_fa f h b) 3 1 0 (tf_fa f 0 b) = nI 3 := by rw [tf_cz_s, if_neg (show ¬ tf_fa f 1 b < tf_fa f 0 b by omega), if_pos (show tf_fa f 1 b = tf_fa f 0 b from h1), tf_cz_s, if_neg (show ¬ tf_fa f 2 b < tf_fa f 0 b by omega), if_neg (show ¬ tf_fa f 2 b = tf_fa f 0 b by omega), tf_cz_s, if_pos (show tf_fa f 3 b < tf_fa f 0 b from h3)]; rfl
        have c1 : tf_nb f b 3 1 0 = 3 := by rw [tf_nb_s, if_neg (show ¬ tf_fa f 1 b < tf_fa f 0 b by omega), tf_nb_s, if_neg (show ¬ tf_fa f 2 b < tf_fa f 0 b by omega), tf_nb_s, if_pos (show tf_fa f 3 b < tf_fa f 0 b from h3)]; rfl
        have c2 : tf_nu f b 3 4 0 = true := by rw [tf_nu_s, if_neg (show ¬ (0 ≠ 3 ∧ tf_fa f 0 b = tf_fa f 3 b) from fun z => by have := z.2; omega), tf_nu_s, if_neg (show ¬ (1 ≠ 3 ∧ tf_fa f 1 b = tf_fa f 3 b) from fun z => by have := z.2; omega), tf_nu_s, if_neg (show ¬ (2 ≠ 3 ∧ tf_fa f 2 b = tf_fa f 3 b) from fun z => by have := z.2; omega), tf_nu_s, if_neg (show ¬ (3 ≠ 3 ∧ tf_fa f 3 b = tf_fa f 3 b) from fun z => z.1 rfl)]; rfl
        rw [c0, c1, c2]
        rw [if_pos rfl]
      · skip
        have c0 : tf_cz (fun h => tf_fa f h b) 3 1 0 (tf_fa f 0 b) = -9 := by rw [tf_cz_s, if_neg (show ¬ tf_fa f 1 b < tf_fa f 0 b by omega), if_pos (show tf_fa f 1 b = tf_fa f 0 b from h1), tf_cz_s, if_neg (show ¬ tf_fa f 2 b < tf_fa f 0 b by omega), if_neg (show ¬ tf_fa f 2 b = tf_fa f 0 b by omega), tf_cz_s, if_neg (show ¬ tf_fa f 3 b < tf_fa f 0 b by omega), if_pos (show tf_fa f 3 b = tf_fa f 0 b from h3)]; rfl
        have c1 : tf_nb f b 3 1 0 = 0 := by rw [tf_nb_s, if_neg (show ¬ tf_fa f 1 b < tf_fa f 0 b by omega), tf_nb_s, if_neg (show ¬ tf_fa f 2 b < tf_fa f 0 b by omega), tf_nb_s, if_neg (show ¬ tf_fa f 3 b < tf_fa f 0 b by omega)]; rfl
        have c2 : tf_nu f b 0 4 0 = false := by rw [tf_nu_s, if_neg (show ¬ (0 ≠ 0 ∧ tf_fa f 0 b = tf_fa f 0 b) from fun z => z.1 rfl), tf_nu_s, if_pos (show 1 ≠ 0 ∧ tf_fa f 1 b = tf_fa f 0 b from ⟨by decide, by omega⟩)]
        rw [c0, c1, c2]
        rw [if_neg (by decide)]
      · skip
        have c0 : tf_cz (fun h => tf_fa f h b) 3 1 0 (tf_fa f 0 b) = -9 := by rw [tf_cz_s, if_neg (show ¬ tf_fa f 1 b < tf_fa f 0 b by omega), if_pos (show tf_fa f 1 b = tf_fa f 0 b from h1), tf_cz_s, if_neg (show ¬ tf_fa f 2 b < tf_fa f 0 b by omega), if_neg (show ¬ tf_fa f 2 b = tf_fa f 0 b by omega), tf_cz_s, if_neg (show ¬ tf_fa f 3 b < tf_fa f 0 b by omega), if_neg (show ¬ tf_fa f 3 b = tf_fa f 0 b by omega)]; rfl
        have c1 : tf_nb f b 3 1 0 = 0 := by rw [tf_nb_s, if_neg (show ¬ tf_fa f 1 b < tf_fa f 0 b by omega), tf_nb_s, if_neg (show ¬ tf_fa f 2 b < tf_fa f 0 b by omega), tf_nb_s, if_neg (show ¬ tf_fa f 3 b < tf_fa f 0 b by omega)]; rfl
        have c2 : tf_nu f b 0 4 0 = false := by rw [tf_nu_s, if_neg (show ¬ (0 ≠ 0 ∧ tf_fa f 0 b = tf_fa f 0 b) from fun z => z.1 rfl), tf_nu_s, if_pos (show 1 ≠ 0 ∧ tf_fa f 1 b = tf_fa f 0 b from ⟨by decide, by omega⟩)]
        rw [c0, c1, c2]
        rw [if_neg (by decide)]
  · skip
    rcases Nat.lt_trichotomy (tf_fa f 2 b) (tf_fa f 0 b) with h2 | h2 | h2
    · skip
      rcases Nat.lt_trichotomy (tf_fa f 3 b) (tf_fa f 2 b) with h3 | h3 | h3
      · skip
        have c0 : tf_cz (fun h => tf_fa f h b) 3 1 0 (tf_fa f 0 b) = nI 3 := by rw [tf_cz_s, if_neg (show ¬ tf_fa f 1 b < tf_fa f 0 b by omega), if_neg (show ¬ tf_fa f 1 b = tf_fa f 0 b by omega), tf_cz_s, if_pos (show tf_fa f 2 b < tf_fa f 0 b from h2), tf_cz_s, if_pos (show tf_fa f 3 b < tf_fa f 2 b from h3)]; rfl
        have c1 : tf_nb f b 3 1 0 = 3 := by rw [tf_nb_s, if_neg (show ¬ tf_fa f 1 b < tf_fa f 0 b by omega), tf_nb_s, if_pos (show tf_fa f 2 b < tf_fa f 0 b from h2), tf_nb_s, if_pos (show tf_fa f 3 b < tf_fa f 2 b from h3)]; rfl
        have c2 : tf_nu f b 3 4 0 = true := by rw [tf_nu_s, if_neg (show ¬ (0 ≠ 3 ∧ tf_fa f 0 b = tf_fa f 3 b) from fun z => by have := z.2; omega), tf_nu_s, if_neg (show ¬ (1 ≠ 3 ∧ tf_fa f 1 b = tf_fa f 3 b) from fun z => by have := z.2; omega), tf_nu_s, if_neg (show ¬ (2 ≠ 3 ∧ tf_fa f 2 b = tf_fa f 3 b) from fun z => by have := z.2; omega), tf_nu_s, if_neg (show ¬ (3 ≠ 3 ∧ tf_fa f 3 b = tf_fa f 3 b) from fun z => z.1 rfl)]; rfl
        rw [c0, c1, c2]
        rw [if_pos rfl]
      · skip
        have c0 : tf_cz (fun h => tf_fa f h b) 3 1 0 (tf_fa f 0 b) = -9 := by rw [tf_cz_s, if_neg (show ¬ tf_fa f 1 b < tf_fa f 0 b by omega), if_neg (show ¬ tf_fa f 1 b = tf_fa f 0 b by omega), tf_cz_s, if_pos (show tf_fa f 2 b < tf_fa f 0 b from h2), tf_cz_s, if_neg (show ¬ tf_fa f 3 b < tf_fa f 2 b by omega), if_pos (show tf_fa f 3 b = tf_fa f 2 b from h3)]; rfl
        have c1 : tf_nb f b 3 1 0 = 2 := by rw [tf_nb_s, if_neg (show ¬ tf_fa f 1 b < tf_fa f 0 b by omega), tf_nb_s, if_pos (show tf_fa f 2 b < tf_fa f 0 b from h2), tf_nb_s, if_neg (show ¬ tf_fa f 3 b < tf_fa f 2 b by omega)]; rfl
        have c2 : tf_nu f b 2 4 0 = false := by rw [tf_nu_s, if_neg (show ¬ (0 ≠ 2 ∧ tf_fa f 0 b = tf_fa f 2 b) from fun z => by have := z.2; omega), tf_nu_s, if_neg (show ¬ (1 ≠ 2 ∧ tf_fa f 1 b = tf_fa f 2 b) from fun z => by have := z.2; omega), tf_nu_s, if_neg (show ¬ (2 ≠ 2 ∧ tf_fa f 2 b = tf_fa f 2 b) from fun z => z.1 rfl), tf_nu_s, if_pos (show 3 ≠ 2 ∧ tf_fa f 3 b = tf_fa f 2 b from ⟨by decide, by omega⟩)]
        rw [c0, c1, c2]
        rw [if_neg (by decide)]
      · skip
        have c0 : tf_cz (fun h => tf_fa f h b) 3 1 0 (tf_fa f 0 b) = nI 2 := by rw [tf_cz_s, if_neg (show ¬ tf_fa f 1 b < tf_fa f 0 b by omega), if_neg (show ¬ tf_fa f 1 b = tf_fa f 0 b by omega), tf_cz_s, if_pos (show tf_fa f 2 b < tf_fa f 0 b from h2), tf_cz_s, if_neg (show ¬ tf_fa f 3 b < tf_fa f 2 b by omega), if_neg (show ¬ tf_fa f 3 b = tf_fa f 2 b by omega)]; rfl
        have c1 : tf_nb f b 3 1 0 = 2 := by rw [tf_nb_s, if_neg (show ¬ tf_fa f 1 b < tf_fa f 0 b by omega), tf_nb_s, if_pos (show tf_fa f 2 b < tf_fa f 0 b from h2), tf_nb_s, if_neg (show ¬ tf_fa f 3 b < tf_fa f 2 b by omega)]; rfl
        have c2 : tf_nu f b 2 4 0 = true := by rw [tf_nu_s, if_neg (show ¬ (0 ≠ 2 ∧ tf_fa f 0 b = tf_fa f 2 b) from fun z => by have := z.2; omega), tf_nu_s, if_neg (show ¬ (1 ≠ 2 ∧ tf_fa f 1 b = tf_fa f 2 b) from fun z => by have := z.2; omega), tf_nu_s, if_neg (show ¬ (2 ≠ 2 ∧ tf_fa f 2 b = tf_fa f 2 b) from fun z => z.1 rfl), tf_nu_s, if_neg (show ¬ (3 ≠ 2 ∧ tf_fa f 3 b = tf_fa f 2 b) from fun z => by have := z.2; omega)]; rfl
        rw [c0, c1, c2]
        rw [if_pos rfl]
    · skip
      rcases Nat.lt_trichotomy (tf_fa f 3 b) (tf_fa f 0 b) with h3 | h3 | h3
      · skip
        have c0 : tf_cz (fun h => tf_fa f h b) 3 1 0 (tf_fa f 0 b) = nI 3 := by rw [tf_cz_s, if_neg (show ¬ tf_fa f 1 b < tf_fa f 0 b by omega), if_neg (show ¬ tf_fa f 1 b = tf_fa f 0 b by omega), tf_cz_s, if_neg (show ¬ tf_fa f 2 b < tf_fa f 0 b by omega), if_pos (show tf_fa f 2 b = tf_fa f 0 b from h2), tf_cz_s, if_pos (show tf_fa f 3 b < tf_fa f 0 b from h3)]; rfl
        have c1 : tf_nb f b 3 1 0 = 3 := by rw [tf_nb_s, if_neg (show ¬ tf_fa f 1 b < tf_fa f 0 b by omega), tf_nb_s, if_neg (show ¬ tf_fa f 2 b < tf_fa f 0 b by omega), tf_nb_s, if_pos (show tf_fa f 3 b < tf_fa f 0 b from h3)]; rfl
        have c2 : tf_nu f b 3 4 0 = true := by rw [tf_nu_s, if_neg (show ¬ (0 ≠ 3 ∧ tf_fa f 0 b = tf_fa f 3 b) from fun z => by have := z.2; omega), tf_nu_s, if_neg (show ¬ (1 ≠ 3 ∧ tf_fa f 1 b = tf_fa f 3 b) from fun z => by have := z.2; omega), tf_nu_s, if_neg (show ¬ (2 ≠ 3 ∧ tf_fa f 2 b = tf_fa f 3 b) from fun z => by have := z.2; omega), tf_nu_s, if_neg (show ¬ (3 ≠ 3 ∧ tf_fa f 3 b = tf_fa f 3 b) from fun z => z.1 rfl)]; rfl
        rw [c0, c1, c2]
        rw [if_pos rfl]
      · skip
        have c0 : tf_cz (fun h => tf_fa f h b) 3 1 0 (tf_fa f 0 b) = -9 := by rw [tf_cz_s, if_neg (show ¬ tf_fa f 1 b < tf_fa f 0 b by omega), if_neg (show ¬ tf_fa f 1 b = tf_fa f 0 b by omega), tf_cz_s, if_neg (show ¬ tf_fa f 2 b < tf_fa f 0 b by omega), if_pos (show tf_fa f 2 b = tf_fa f 0 b from h2), tf_cz_s, if_neg (show ¬ tf_fa f 3 b < tf_fa f 0 b by omega), if_pos (show tf_fa f 3 b = tf_fa f 0 b from h3)]; rfl
        have c1 : tf_nb f b 3 1 0 = 0 := by rw [tf_nb_s, if_neg (show ¬ tf_fa f 1 b < tf_fa f 0 b by omega), tf_nb_s, if_neg (show ¬ tf_fa f 2 b < tf_fa f 0 b by omega), tf_nb_s, if_neg (show ¬ tf_fa f 3 b < tf_fa f 0 b by omega)]; rfl
        have c2 : tf_nu f b 0 4 0 = false := by rw [tf_nu_s, if_neg (show ¬ (0 ≠ 0 ∧ tf_fa f 0 b = tf_fa f 0 b) from fun z => z.1 rfl), tf_nu_s, if_neg (show ¬ (1 ≠ 0 ∧ tf_fa f 1 b = tf_fa f 0 b) from fun z => by have := z.2; omega), tf_nu_s, if_pos (show 2 ≠ 0 ∧ tf_fa f 2 b = tf_fa f 0 b from ⟨by decide, by omega⟩)]
        rw [c0, c1, c2]
        rw [if_neg (by decide)]
      · skip
        have c0 : tf_cz (fun h => tf_fa f h b) 3 1 0 (tf_fa f 0 b) = -9 := by rw [tf_cz_s, if_neg (show ¬ tf_fa f 1 b < tf_fa f 0 b by omega), if_neg (show ¬ tf_fa f 1 b = tf_fa f 0 b by omega), tf_cz_s, if_neg (show ¬ tf_fa f 2 b < tf_fa f 0 b by omega), if_pos (show tf_fa f 2 b = tf_fa f 0 b from h2), tf_cz_s, if_neg (show ¬ tf_fa f 3 b < tf_fa f 0 b by omega), if_neg (show ¬ tf_fa f 3 b = tf_fa f 0 b by omega)]; rfl
        have c1 : tf_nb f b 3 1 0 = 0 := by rw [tf_nb_s, if_neg (show ¬ tf_fa f 1 b < tf_fa f 0 b by omega), tf_nb_s, if_neg (show ¬ tf_fa f 2 b < tf_fa f 0 b by omega), tf_nb_s, if_neg (show ¬ tf_fa f 3 b < tf_fa f 0 b by omega)]; rfl
        have c2 : tf_nu f b 0 4 0 = false := by rw [tf_nu_s, if_neg (show ¬ (0 ≠ 0 ∧ tf_fa f 0 b = tf_fa f 0 b) from fun z => z.1 rfl), tf_nu_s, if_neg (show ¬ (1 ≠ 0 ∧ tf_fa f 1 b = tf_fa f 0 b) from fun z => by have := z.2; omega), tf_nu_s, if_pos (show 2 ≠ 0 ∧ tf_fa f 2 b = tf_fa f 0 b from ⟨by decide, by omega⟩)]
        rw [c0, c1, c2]
        rw [if_neg (by decide)]
    · skip
      rcases Nat.lt_trichotomy (tf_fa f 3 b) (tf_fa f 0 b) with h3 | h3 | h3
      · skip
        have c0 : tf_cz (fun h => tf_fa f h b) 3 1 0 (tf_fa f 0 b) = nI 3 := by rw [tf_cz_s, if_neg (show ¬ tf_fa f 1 b < tf_fa f 0 b by omega), if_neg (show ¬ tf_fa f 1 b = tf_fa f 0 b by omega), tf_cz_s, if_neg (show ¬ tf_fa f 2 b < tf_fa f 0 b by omega), if_neg (show ¬ tf_fa f 2 b = tf_fa f 0 b by omega), tf_cz_s, if_pos (show tf_fa f 3 b < tf_fa f 0 b from h3)]; rfl
        have c1 : tf_nb f b 3 1 0 = 3 := by rw [tf_nb_s, if_neg (show ¬ tf_fa f 1 b < tf_fa f 0 b by omega), tf_nb_s, if_neg (show ¬ tf_fa f 2 b < tf_fa f 0 b by omega), tf_nb_s, if_pos (show tf_fa f 3 b < tf_fa f 0 b from h3)]; rfl
        have c2 : tf_nu f b 3 4 0 = true := by rw [tf_nu_s, if_neg (show ¬ (0 ≠ 3 ∧ tf_fa f 0 b = tf_fa f 3 b) from fun z => by have := z.2; omega), tf_nu_s, if_neg (show ¬ (1 ≠ 3 ∧ tf_fa f 1 b = tf_fa f 3 b) from fun z => by have := z.2; omega), tf_nu_s, if_neg (show ¬ (2 ≠ 3 ∧ tf_fa f 2 b = tf_fa f 3 b) from fun z => by have := z.2; omega), tf_nu_s, if_neg (show ¬ (3 ≠ 3 ∧ tf_fa f 3 b = tf_fa f 3 b) from fun z => z.1 rfl)]; rfl
        rw [c0, c1, c2]
        rw [if_pos rfl]
      · skip
        have c0 : tf_cz (fun h => tf_fa f h b) 3 1 0 (tf_fa f 0 b) = -9 := by rw [tf_cz_s, if_neg (show ¬ tf_fa f 1 b < tf_fa f 0 b by omega), if_neg (show ¬ tf_fa f 1 b = tf_fa f 0 b by omega), tf_cz_s, if_neg (show ¬ tf_fa f 2 b < tf_fa f 0 b by omega), if_neg (show ¬ tf_fa f 2 b = tf_fa f 0 b by omega), tf_cz_s, if_neg (show ¬ tf_fa f 3 b < tf_fa f 0 b by omega), if_pos (show tf_fa f 3 b = tf_fa f 0 b from h3)]; rfl
        have c1 : tf_nb f b 3 1 0 = 0 := by rw [tf_nb_s, if_neg (show ¬ tf_fa f 1 b < tf_fa f 0 b by omega), tf_nb_s, if_neg (show ¬ tf_fa f 2 b < tf_fa f 0 b by omega), tf_nb_s, if_neg (show ¬ tf_fa f 3 b < tf_fa f 0 b by omega)]; rfl
        have c2 : tf_nu f b 0 4 0 = false := by rw [tf_nu_s, if_neg (show ¬ (0 ≠ 0 ∧ tf_fa f 0 b = tf_fa f 0 b) from fun z => z.1 rfl), tf_nu_s, if_neg (show ¬ (1 ≠ 0 ∧ tf_fa f 1 b = tf_fa f 0 b) from fun z => by have := z.2; omega), tf_nu_s, if_neg (show ¬ (2 ≠ 0 ∧ tf_fa f 2 b = tf_fa f 0 b) from fun z => by have := z.2; omega), tf_nu_s, if_pos (show 3 ≠ 0 ∧ tf_fa f 3 b = tf_fa f 0 b from ⟨by decide, by omega⟩)]
        rw [c0, c1, c2]
        rw [if_neg (by decide)]
      · skip
        have c0 : tf_cz (fun h => tf_fa f h b) 3 1 0 (tf_fa f 0 b) = 0 := by rw [tf_cz_s, if_neg (show ¬ tf_fa f 1 b < tf_fa f 0 b by omega), if_neg (show ¬ tf_fa f 1 b = tf_fa f 0 b by omega), tf_cz_s, if_neg (show ¬ tf_fa f 2 b < tf_fa f 0 b by omega), if_neg (show ¬ tf_fa f 2 b = tf_fa f 0 b by omega), tf_cz_s, if_neg (show ¬ tf_fa f 3 b < tf_fa f 0 b by omega), if_neg (show ¬ tf_fa f 3 b = tf_fa f 0 b by omega)]; rfl
        have c1 : tf_nb f b 3 1 0 = 0 := by rw [tf_nb_s, if_neg (show ¬ tf_fa f 1 b < tf_fa f 0 b by omega), tf_nb_s, if_neg (show ¬ tf_fa f 2 b < tf_fa f 0 b by omega), tf_nb_s, if_neg (show ¬ tf_fa f 3 b < tf_fa f 0 b by omega)]; rfl
        have c2 : tf_nu f b 0 4 0 = true := by rw [tf_nu_s, if_neg (show ¬ (0 ≠ 0 ∧ tf_fa f 0 b = tf_fa f 0 b) from fun z => z.1 rfl), tf_nu_s, if_neg (show ¬ (1 ≠ 0 ∧ tf_fa f 1 b = tf_fa f 0 b) from fun z => by have := z.2; omega), tf_nu_s, if_neg (show ¬ (2 ≠ 0 ∧ tf_fa f 2 b = tf_fa f 0 b) from fun z => by have := z.2; omega), tf_nu_s, if_neg (show ¬ (3 ≠ 0 ∧ tf_fa f 3 b = tf_fa f 0 b) from fun z => by have := z.2; omega)]; rfl
        rw [c0, c1, c2]
        rw [if_pos rfl]; rfl
/-! a STATE copied: boards, hands, Series, WORDS -/
def cB (S : tf_Sg) (s : Nat) (f : Nat → Nat) : Nat → tf_Sg
  | 0 => S
  | k + 1 => tf_bp (cB S s f k) (s + 3 + 3 * k) (s + 4 + 3 * k) (fun j => f (30 * k + j))
def cH (S : tf_Sg) (s t : Nat) : Nat → tf_Sg
  | 0 => S
  | k + 1 => tf_wn (cH S s t k) (s + 16 + 2 * k) 6 (fun j => cH S s t k (t + 16 + 2 * k) j)
def cS (S : tf_Sg) (o p : Nat) : tf_Sg := tf_wr S o (o + 1) (S p 1).toNatClampNeg (fun j => S (p + 1) j)
def cW (S : tf_Sg) (s t : Nat) : Nat → tf_Sg
  | 0 => tf_set S (s + 27) 2 (S (t + 27) 2)
  | k + 1 => tf_set (cS (cW S s t k) (s + 29 + 2 * k) (t + 29 + 2 * k)) (s + 49) k (cW S s t k (t + 49) k)
def cA (S : tf_Sg) (s t : Nat) (f : Nat → Nat) : tf_Sg := cS (cW (cS (cS (cH (cB S s f 4) s t 4) (s + 23) (t + 23)) (s + 25) (t + 25)) s t 10) (s + 50) (t + 50)
theorem cB_fr {S : tf_Sg} {s a : Nat} {f : Nat → Nat} : ∀ {k : Nat}, (a < s + 3 ∨ s + 3 + 3 * k ≤ a + 0) → cB S s f k a = S a
  | 0, _ => rfl
  | k + 1, h => by
    show tf_bp (cB S s f k) (s + 3 + 3 * k) (s + 4 + 3 * k) _ a = S a
    rw [tf_bp_n (by omega) (by omega)]
    exact cB_fr (by omega)
theorem cB_at {S : tf_Sg} {s : Nat} {f : Nat → Nat} : ∀ {k b : Nat}, b < k → (∀ j, j < 30 → cB S s f k (s + 3 + 3 * b) j = tf_vo (f (30 * b + j))) ∧ (∀ l, l < 26 → cB S s f k (s + 4 + 3 * b) l = tf_on 30 (tf_ke f b l))
  | 0, b, h => absurd h (Nat.not_lt_zero b)
  | k + 1, b, h => by
    by_cases e : b = k
    · subst e
      refine ⟨fun j hj => if_pos ⟨rfl, hj⟩, fun l hl => ?_⟩
      exact (if_neg (show ¬ (s + 4 + 3 * b = s + 3 + 3 * b ∧ l < 30) by omega)).trans (if_pos ⟨rfl, hl⟩)
    · obtain ⟨h1, h2⟩ := cB_at (S := S) (s := s) (f := f) (k := k) (b := b) (by omega)
      refine ⟨fun j hj => ?_, fun l hl => ?_⟩
      · show tf_bp (cB S s f k) (s + 3 + 3 * k) (s + 4 + 3 * k) _ (s + 3 + 3 * b) j = _
        rw [tf_bp_n (by omega) (by omega)]; exact h1 j hj
      · show tf_bp (cB S s f k) (s + 3 + 3 * k) (s + 4 + 3 * k) _ (s + 4 + 3 * b) l = _
        rw [tf_bp_n (by omega) (by omega)]; exact h2 l hl
theorem cH_fr {S : tf_Sg} {s t a : Nat} : ∀ {k : Nat}, (a < s + 16 ∨ s + 16 + 2 * k ≤ a) → cH S s t k a = S a
  | 0, _ => rfl
  | k + 1, h => by
    show tf_wn (cH S s t k) (s + 16 + 2 * k) 6 _ a = S a
    rw [tf_wn_n (by omega)]
    exact cH_fr (by omega)
theorem cH_at {S : tf_Sg} {s t : Nat} (hst : s + 52 ≤ t ∨ t + 52 ≤ s) : ∀ {k b : Nat}, k ≤ 4 → b < k → ∀ j, j < 6 → cH S s t k (s + 16 + 2 * b) j = S (t + 16 + 2 * b) j
  | 0, b, _, h => absurd h (Nat.not_lt_zero b)
  | k + 1, b, h4, h => by
    intro j hj
    by_cases e : b = k
    · subst e
      refine (if_pos ⟨rfl, hj⟩).trans ?_
      rw [cH_fr (by omega)]
    · show tf_wn (cH S s t k) (s + 16 + 2 * k) 6 _ (s + 16 + 2 * b) j = _
      rw [tf_wn_n (by omega)]
      exact cH_at hst (by omega) (by omega) j hj
theorem cS_fr {S : tf_Sg} {o p a : Nat} (h1 : a ≠ o) (h2 : a ≠ o + 1) : cS S o p a = S a := tf_wr_ne h1 h2
theorem cS_at {S : tf_Sg} {o p n : Nat} (hn : S p 1 = nI n) (hl : n < 2147483648) : cS S o p o 1 = nI n ∧ ∀ j, j < n → cS S o p (o + 1) j = S (p + 1) j := by
  unfold cS
  rw [hn, tf_cl_nI hl]
  exact ⟨tf_wr_o (by omega), fun j hj => tf_wr_a hj⟩
theorem cS_st {S : tf_Sg} {o p c a : Nat} {f : Nat → Nat} (h : tf_stS S p c a f) (hl : f c < 2147483648) : tf_stS (cS S o p) o c a f := by
  obtain ⟨h1, h2⟩ := cS_at (o := o) h.1 hl
  exact ⟨h1, fun j hj => by rw [h2 j hj]; exact h.2 j hj⟩
theorem cW_fr {S : tf_Sg} {s t a : Nat} : ∀ {k : Nat}, k ≤ 10 → (a < s + 27 ∨ s + 49 < a) → cW S s t k a = S a
  | 0, _, h => tf_set_n (by omega)
  | k + 1, hk, h => by
    show tf_set (cS (cW S s t k) (s + 29 + 2 * k) (t + 29 + 2 * k)) (s + 49) k _ a = S a
    rw [tf_set_n (by omega), cS_fr (by omega) (by omega)]
    exact cW_fr (by omega) h
theorem cW_s {S : tf_Sg} {s t : Nat} : ∀ {k : Nat}, k ≤ 10 → cW S s t k (s + 27) 2 = S (t + 27) 2
  | 0, _ => tf_set_s
  | k + 1, hk => by
    show tf_set (cS (cW S s t k) (s + 29 + 2 * k) (t + 29 + 2 * k)) (s + 49) k _ (s + 27) 2 = _
    rw [tf_set_n (by omega), cS_fr (by omega) (by omega)]
    exact cW_s (by omega)
theorem cW_at {S : tf_Sg} {s t : Nat} (hst : s + 52 ≤ t ∨ t + 52 ≤ s) : ∀ {k w n : Nat}, k ≤ 10 → w < k → S (t + 29 + 2 * w) 1 = nI n → n < 2147483648 → cW S s t k (s + 29 + 2 * w) 1 = nI n ∧ (∀ j, j < n → cW S s t k (s + 30 + 2 * w) j = S (t + 30 + 2 * w) j) ∧ cW S s t k (s + 49) w = S (t + 49) w
  | 0, w, _, _, h, _, _ => absurd h (Nat.not_lt_zero w)
  | k + 1, w, n, h4, h, hn, hl => by
    have ft : ∀ a, t + 27 ≤ a → a ≤ t + 49 → cW S s t k a = S a := fun a h1 h2 => cW_fr (by omega) (by omega)
    by_cases e : w = k
    · subst e
      obtain ⟨q1, q2⟩ := cS_at (S := cW S s t w) (o := s + 29 + 2 * w) (p := t + 29 + 2 * w) (n := n) (by rw [ft _ (by omega) (by omega)]; exact hn) hl
      refine ⟨?_, fun j hj => ?_, ?_⟩
      · show tf_set (cS (cW S s t w) (s + 29 + 2 * w) (t + 29 + 2 * w)) (s + 49) w _ (s + 29 + 2 * w) 1 = _
        rw [tf_set_n (by omega)]; exact q1
      · show tf_set (cS (cW S s t w) (s + 29 + 2 * w) (t + 29 + 2 * w)) (s + 49) w _ (s + 30 + 2 * w) j = _
        rw [tf_set_n (by omega), show s + 30 + 2 * w = s + 29 + 2 * w + 1 by omega, q2 j hj, ft _ (by omega) (by omega), show t + 29 + 2 * w + 1 = t + 30 + 2 * w by omega]
      · show tf_set (cS (cW S s t w) (s + 29 + 2 * w) (t + 29 + 2 * w)) (s + 49) w (cW S s t w (t + 49) w) (s + 49) w = _
        rw [tf_set_s, ft _ (by omega) (by omega)]
    · obtain ⟨q1, q2, q3⟩ := cW_at hst (k := k) (w := w) (n := n) (by omega) (by omega) hn hl
      refine ⟨?_, fun j hj => ?_, ?_⟩
      · show tf_set (cS (cW S s t k) (s + 29 + 2 * k) (t + 29 + 2 * k)) (s + 49) k _ (s + 29 + 2 * w) 1 = _
        rw [tf_set_n (by omega), cS_fr (by omega) (by omega)]; exact q1
      · show tf_set (cS (cW S s t k) (s + 29 + 2 * k) (t + 29 + 2 * k)) (s + 49) k _ (s + 30 + 2 * w) j = _
        rw [tf_set_n (by omega), cS_fr (by omega) (by omega)]; exact q2 j hj
      · show tf_set (cS (cW S s t k) (s + 29 + 2 * k) (t + 29 + 2 * k)) (s + 49) k _ (s + 49) w = _
        rw [tf_set_k (by omega), cS_fr (by omega) (by omega)]; exact q3
theorem cW_st {S : tf_Sg} {s t : Nat} {f : Nat → Nat} (hst : s + 52 ≤ t ∨ t + 52 ≤ s) (hg : tf_gd f) (h : tf_stV S t f) : tf_stV (cW S s t 10) s f := by
  have g := hg.1.2.2.1
  obtain ⟨h1, h2, h3⟩ := h
  refine ⟨by rw [cW_s (Nat.le_refl _)]; exact h1, fun w hw => ?_, fun w hw => ?_⟩
  · obtain ⟨q1, q2, q3⟩ := h2 w hw
    have g2 := hg.2.1 w hw
    obtain ⟨p1, p2, p3⟩ := cW_at hst (k := 10) (w := w) (Nat.le_refl _) (by omega) q1 (by omega)
    exact ⟨p1, fun j hj => by rw [p2 j hj]; exact q2 j hj, by rw [p3]; exact q3⟩
  · obtain ⟨m, hm, q1⟩ := h3 w hw
    exact ⟨m, hm, (cW_at hst (k := 10) (w := w) (Nat.le_refl _) hw q1 (by omega)).1⟩
theorem cA_fr {S : tf_Sg} {s t a : Nat} {f : Nat → Nat} (h : a < s ∨ s + 52 ≤ a) : cA S s t f a = S a := by
  unfold cA
  rw [cS_fr (by omega) (by omega), cW_fr (Nat.le_refl _) (by omega), cS_fr (by omega) (by omega), cS_fr (by omega) (by omega), cH_fr (by omega), cB_fr (by omega)]
theorem cA_st {S : tf_Sg} {s t : Nat} {f : Nat → Nat} (hst : s + 52 ≤ t ∨ t + 52 ≤ s) (hg : tf_gd f) (h : tf_st S t f) : tf_st (cA S s t f) s f := by
  have g := hg.1
  have e1 : ∀ a, t ≤ a → a < t + 52 → cB S s f 4 a = S a := fun a h1 h2 => cB_fr (by omega)
  have e2 : ∀ a, t ≤ a → a < t + 52 → cH (cB S s f 4) s t 4 a = S a := fun a h1 h2 => by rw [cH_fr (by omega)]; exact e1 a h1 h2
  have e3 : ∀ a, t ≤ a → a < t + 52 → cS (cH (cB S s f 4) s t 4) (s + 23) (t + 23) a = S a := fun a h1 h2 => by rw [cS_fr (by omega) (by omega)]; exact e2 a h1 h2
  have e4 : ∀ a, t ≤ a → a < t + 52 → cS (cS (cH (cB S s f 4) s t 4) (s + 23) (t + 23)) (s + 25) (t + 25) a = S a := fun a h1 h2 => by rw [cS_fr (by omega) (by omega)]; exact e3 a h1 h2
  have e5 : ∀ a, t ≤ a → a < t + 52 → cW (cS (cS (cH (cB S s f 4) s t 4) (s + 23) (t + 23)) (s + 25) (t + 25)) s t 10 a = S a := fun a h1 h2 => by rw [cW_fr (Nat.le_refl _) (by omega)]; exact e4 a h1 h2
  have c : ∀ {X : tf_Sg}, (∀ a, t ≤ a → a < t + 52 → X a = S a) → tf_st X t f := fun q => tf_st_c h hg q
  refine ⟨fun b hb => ?_, fun b hb l hl => ?_, ?_, ?_, ?_, ?_⟩
  · obtain ⟨h1, h2⟩ := cB_at (S := S) (s := s) (f := f) hb
    have k : ∀ a, s + 3 ≤ a → a ≤ s + 13 → cA S s t f a = cB S s f 4 a := fun a h3 h4 => by
      unfold cA
      rw [cS_fr (by omega) (by omega), cW_fr (Nat.le_refl _) (by omega), cS_fr (by omega) (by omega), cS_fr (by omega) (by omega), cH_fr (by omega)]
    rw [k _ (by omega) (by omega), k _ (by omega) (by omega)]
    exact ⟨h1, h2⟩
  · have h1 := cH_at (S := cB S s f 4) hst (Nat.le_refl 4) hb l hl
    rw [e1 _ (by omega) (by omega)] at h1
    have k : cA S s t f (s + 16 + 2 * b) = cH (cB S s f 4) s t 4 (s + 16 + 2 * b) := by
      unfold cA
      rw [cS_fr (by omega) (by omega), cW_fr (Nat.le_refl _) (by omega), cS_fr (by omega) (by omega), cS_fr (by omega) (by omega)]
    rw [k, h1]
    exact h.2.1 b hb l hl
  · have h1 := cS_st (o := s + 23) (c e2).2.2.1 (by omega)
    refine tf_stS_c h1 ?_ ?_ rfl (fun _ _ => rfl)
    · unfold cA; rw [cS_fr (by omega) (by omega), cW_fr (Nat.le_refl _) (by omega), cS_fr (by omega) (by omega)]
    · unfold cA; rw [cS_fr (by omega) (by omega), cW_fr (Nat.le_refl _) (by omega), cS_fr (by omega) (by omega)]
  · have h1 := cS_st (o := s + 25) (c e3).2.2.2.1 (by omega)
    refine tf_stS_c h1 ?_ ?_ rfl (fun _ _ => rfl)
    · unfold cA; rw [cS_fr (by omega) (by omega), cW_fr (Nat.le_refl _) (by omega)]
    · unfold cA; rw [cS_fr (by omega) (by omega), cW_fr (Nat.le_refl _) (by omega)]
  · exact tf_stV_c (cW_st hst hg (c e4).2.2.2.2.1) hg (fun a h1 h2 => by unfold cA; rw [cS_fr (by omega) (by omega)]) rfl (fun _ _ _ => rfl)
  · exact cS_st (o := s + 50) (c e5).2.2.2.2.2 (by omega)

