/-! the row s written anew -/
def tf_rw (S : tf_Sg) (a : Nat) (F : Nat → Nat) : tf_Sg := fun x k => if x = a then nI (F k) else S x k
theorem tf_rw_a {S : tf_Sg} {a : Nat} {F : Nat → Nat} : ∀ k, tf_rw S a F a k = nI (F k) := fun k => by unfold tf_rw; rw [if_pos rfl]
theorem tf_rw_n {S : tf_Sg} {a x : Nat} {F : Nat → Nat} (h : x ≠ a) : tf_rw S a F x = S x := by funext k; unfold tf_rw; rw [if_neg h]
theorem tf_rw_rw {S : tf_Sg} {a : Nat} {F F' : Nat → Nat} : tf_rw (tf_rw S a F) a F' = tf_rw S a F' := by
  funext x k
  unfold tf_rw
  by_cases h : x = a
  · rw [if_pos h, if_pos h]
  · rw [if_neg h, if_neg h, if_neg h]
theorem tf_rw_id {S : tf_Sg} {a : Nat} {F : Nat → Nat} (h : ∀ k, S a k = nI (F k)) : tf_rw S a F = S := by
  funext x k
  unfold tf_rw
  by_cases hx : x = a
  · subst hx; rw [if_pos rfl, h]
  · rw [if_neg hx]
def tf_u (F : Nat → Nat) (k v : Nat) : Nat → Nat := fun j => if j = k then v else F j
theorem tf_rw_u {S : tf_Sg} {a k v : Nat} {F : Nat → Nat} (h : ∀ k, S a k = nI (F k)) : tf_set S a k (nI v) = tf_rw S a (tf_u F k v) := by
  funext x j
  unfold tf_set tf_rw tf_u
  by_cases hx : x = a
  · subst hx
    by_cases hj : j = k
    · subst hj; rw [if_pos ⟨rfl, rfl⟩, if_pos rfl, if_pos rfl]
    · rw [if_neg (fun q => hj q.2), if_pos rfl, if_neg hj, h]
  · rw [if_neg (fun q => hx q.1), if_neg hx]
theorem tf_rw_u2 {S : tf_Sg} {a k v : Nat} {F : Nat → Nat} : tf_set (tf_rw S a F) a k (nI v) = tf_rw S a (tf_u F k v) := by rw [tf_rw_u (fun k => tf_rw_a k), tf_rw_rw]
/-- an EXCHANGE -/
def tf_ex (f : Nat → Nat) (b x y : Nat) : Nat → Nat := tf_u (tf_u f (30 * b + x) (f (30 * b + y))) (30 * b + y) (f (30 * b + x))
theorem tf_ex_at (f : Nat → Nat) (b x y k : Nat) : tf_ex f b x y k = if k = 30 * b + y then f (30 * b + x) else if k = 30 * b + x then f (30 * b + y) else f k := rfl
theorem tf_ex_hi {f : Nat → Nat} {b x y k : Nat} (hb : b < 4) (hx : x < 30) (hy : y < 30) (hk : 120 ≤ k) : tf_ex f b x y k = f k := by
  rw [tf_ex_at, if_neg (by omega), if_neg (by omega)]
theorem tf_ex_ex {f : Nat → Nat} {b x y : Nat} (h : x ≠ y) : tf_ex (tf_ex f b x y) b x y = f := by
  funext k
  rw [tf_ex_at]
  by_cases h1 : k = 30 * b + y
  · subst h1
    rw [if_pos rfl, tf_ex_at, if_neg (by omega), if_pos rfl]
  · rw [if_neg h1]
    by_cases h2 : k = 30 * b + x
    · subst h2
      rw [if_pos rfl, tf_ex_at, if_pos rfl]
    · rw [if_neg h2, tf_ex_at, if_neg h1, if_neg h2]
theorem tf_ex_le {f : Nat → Nat} {b x y n : Nat} (h : ∀ k, f k < n) : ∀ k, tf_ex f b x y k < n := by
  intro k
  rw [tf_ex_at]
  split
  · exact h _
  · split
    · exact h _
    · exact h _
theorem tf_sw_inj {x y k j : Nat} (h : (if k = y then x else if k = x then y else k) = (if j = y then x else if j = x then y else j)) : k = j := by
  by_cases a1 : k = y
  · rw [if_pos a1] at h
    by_cases b1 : j = y
    · omega
    · rw [if_neg b1] at h
      by_cases b2 : j = x
      · rw [if_pos b2] at h; omega
      · rw [if_neg b2] at h; omega
  · rw [if_neg a1] at h
    by_cases a2 : k = x
    · rw [if_pos a2] at h
      by_cases b1 : j = y
      · rw [if_pos b1] at h; omega
      · rw [if_neg b1] at h
        by_cases b2 : j = x
        · omega
        · rw [if_neg b2] at h; omega
    · rw [if_neg a2] at h
      by_cases b1 : j = y
      · rw [if_pos b1] at h; omega
      · rw [if_neg b1] at h
        by_cases b2 : j = x
        · rw [if_pos b2] at h; omega
        · rw [if_neg b2] at h; exact h
theorem tf_ex_gd {f : Nat → Nat} {b x y : Nat} (hg : tf_gd f) (hb : b < 4) (hx : x < 30) (hy : y < 30) : tf_gd (tf_ex f b x y) := by
  have e : ∀ k, 120 ≤ k → tf_ex f b x y k = f k := fun k hk => tf_ex_hi hb hx hy hk
  obtain ⟨⟨g1, g2, g3, g4⟩, g5, g6, g7, g8, g9, g10, g11⟩ := hg
  refine ⟨⟨by rw [e _ (by omega)]; exact g1, by rw [e _ (by omega)]; exact g2, by rw [e _ (by omega)]; exact g3, by rw [e _ (by omega)]; exact g4⟩, fun w hw => ?_, fun i hi => ?_, fun i hi => ?_, fun w hw j hj => ?_, fun i hi => by rw [e _ (by omega)]; exact g9 i hi, fun k hk => ?_, fun c hc k j hk hj h0 h1 => ?_⟩
  · rw [e _ (by omega)] at hw ⊢; exact g5 w hw
  · rw [e _ (by omega)] at hi ⊢; exact g6 i hi
  · rw [e _ (by omega)] at hi ⊢; exact g7 i hi
  · rw [e _ (by omega)] at hw; rw [e _ (by omega)] at hj; rw [e _ (by omega)]; exact g8 w hw j hj
  · rw [tf_ex_at]
    split
    · exact g10 _ (by omega)
    · split
      · exact g10 _ (by omega)
      · exact g10 _ hk
  · simp only [tf_ex_at] at h0 h1
    by_cases hcb : c = b
    · subst hcb
      -- where a key's letter came from
      have key : ∀ i, i < 30 → ∃ i', i' < 30 ∧ (if 30 * c + i = 30 * c + y then f (30 * c + x) else if 30 * c + i = 30 * c + x then f (30 * c + y) else f (30 * c + i)) = f (30 * c + i') ∧ (i' = if i = y then x else if i = x then y else i) := by
        intro i hi
        by_cases a : i = y
        · exact ⟨x, hx, by rw [if_pos (by omega)], by rw [if_pos a]⟩
        · by_cases a2 : i = x
          · exact ⟨y, hy, by rw [if_neg (by omega), if_pos (by omega)], by rw [if_neg a, if_pos a2]⟩
          · exact ⟨i, hi, by rw [if_neg (by omega), if_neg (by omega)], by rw [if_neg a, if_neg a2]⟩
      obtain ⟨k', p1, p2, p3⟩ := key k hk
      obtain ⟨j', q1, q2, q3⟩ := key j hj
      rw [p2] at h0 h1
      rw [q2] at h0
      have := g11 c hc k' j' p1 q1 h0 h1
      rw [p3, q3] at this
      exact tf_sw_inj this
    · rw [if_neg (by omega), if_neg (by omega), if_neg (by omega), if_neg (by omega)] at h0
      rw [if_neg (by omega), if_neg (by omega)] at h1
      exact g11 c hc k j hk hj h0 h1
/-- BETTER: the best so far and its time -/
def tf_b2 (f : Nat → Nat) (h b x : Nat) : Nat → Nat → Nat × Nat → Nat × Nat
  | 0, _, q => q
  | m + 1, y, q => tf_b2 f h b x m (y + 1) (if f (30 * b + x) = f (30 * b + y) then q else if q.2 ≤ tf_tm (tf_ex f b x y) h b 0 then q else (100 * x + y, tf_tm (tf_ex f b x y) h b 0))
def tf_b1 (f : Nat → Nat) (h b : Nat) : Nat → Nat → Nat × Nat → Nat × Nat
  | 0, _, q => q
  | m + 1, x, q => tf_b1 f h b m (x + 1) (tf_b2 f h b x (30 - (x + 1)) (x + 1) q)
def tf_be (f : Nat → Nat) (h b : Nat) : Nat := (tf_b1 f h b 30 0 (3000, tf_tm f h b 0)).1
theorem tf_b2_s {f : Nat → Nat} {h b x m y : Nat} {q : Nat × Nat} : tf_b2 f h b x (m + 1) y q = tf_b2 f h b x m (y + 1) (if f (30 * b + x) = f (30 * b + y) then q else if q.2 ≤ tf_tm (tf_ex f b x y) h b 0 then q else (100 * x + y, tf_tm (tf_ex f b x y) h b 0)) := rfl
theorem tf_b1_s {f : Nat → Nat} {h b m x : Nat} {q : Nat × Nat} : tf_b1 f h b (m + 1) x q = tf_b1 f h b m (x + 1) (tf_b2 f h b x (30 - (x + 1)) (x + 1) q) := rfl
/-- FAR -/
def tf_fl2 (f : Nat → Nat) (h b : Nat) : Nat → Nat → Nat
  | 0, _ => 0
  | m + 1, i => if i < f 367 ∧ i < f 364 then tf_di (f (324 + i)) (tf_gt f h b i 0) + tf_fl2 f h b m (i + 1) else 0
def tf_fa (f : Nat → Nat) (h b : Nat) : Nat := tf_fl2 f h b 41 0
theorem tf_fl2_s {f : Nat → Nat} {h b m i : Nat} : tf_fl2 f h b (m + 1) i = if i < f 367 ∧ i < f 364 then tf_di (f (324 + i)) (tf_gt f h b i 0) + tf_fl2 f h b m (i + 1) else 0 := rfl
/-- ACHE of a letter -/
def tf_ah (f : Nat → Nat) (b i : Nat) : Nat := if tf_ke f b (f (144 + i)) = 30 then 0 else if i ≠ 0 ∧ tf_ke f b (f (144 + i - 1)) < 30 ∧ tf_ke f b (f (144 + i - 1)) ≠ tf_ke f b (f (144 + i)) ∧ tf_fi (tf_ke f b (f (144 + i - 1))) 0 = tf_fi (tf_ke f b (f (144 + i))) 0 then 3 else 1
/-- all that PACE p takes -/
def tf_pc (f : Nat → Nat) (h b p d : Nat) : Nat := tf_tm f h b 0 * 10 / (10 + p) + f 364 * p * p / 100 * d
theorem tf_ti_le {f : Nat → Nat} (hg : tf_gd f) {h b t a p : Nat} (hh : h < 4) (hp : p ≤ 100) : ∀ m k, tf_ti f h b t a p m k ≤ 12000 * m
  | 0, k => Nat.le_refl _
  | m + 1, k => by
    rw [tf_ti_s]
    have h1 := tf_ti_le hg (b := b) (t := t) (a := a) hh hp m (k + 1)
    have h2 := tf_gt_le hg (b := b) (i := a) (t := t) hh
    have h3 := Nat.mul_le_mul (tf_gt_le hg (b := b) (i := a + k) (t := t) hh) hp
    split <;> omega
theorem tf_pt_le (f : Nat → Nat) (w : Nat) : tf_pt f w ≤ 100 := by unfold tf_pt; split <;> omega
theorem tf_tl_le {f : Nat → Nat} (hg : tf_gd f) {h b t : Nat} (hh : h < 4) : ∀ m a, tf_tl f h b t m a ≤ 12000 * (f 364 - a)
  | 0, a => Nat.zero_le _
  | m + 1, a => by
    rw [tf_tl_s]
    split
    · next ha =>
      have h1 := tf_tl_le hg (b := b) (t := t) hh m (a + tf_sz f (tf_wd f a))
      have h2 := tf_ti_le hg (b := b) (t := t) (a := a) hh (tf_pt_le f (tf_wd f a)) (tf_sz f (tf_wd f a)) 0
      have h3 := tf_wd_in hg ha
      omega
    · exact Nat.zero_le _
theorem tf_tm_le {f : Nat → Nat} (hg : tf_gd f) {h b t : Nat} (hh : h < 4) : tf_tm f h b t ≤ 480000 := by
  have h1 := tf_tl_le hg (b := b) (t := t) hh 40 0
  have h2 := hg.1
  unfold tf_tm
  omega
theorem tf_sf_rw {G : tf_G} {S : tf_Sg} {o : Nat} {F : Nat → Nat} (h : ∀ k, F k < 10000) : tf_sf G (tf_rw S (tf_rf G o 1) F) o F := ⟨tf_rw_a, h⟩
