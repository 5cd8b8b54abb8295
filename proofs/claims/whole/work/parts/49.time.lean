/-! TIME letter by letter is TIME piece by piece -/
theorem tf_tS_add (L K H : Nat → Nat) (t : Nat) : ∀ a b k, tf_tS L K H t (a + b) k = tf_tS L K H t a k + tf_tS L K H t b (k + a)
  | 0, b, k => by rw [Nat.zero_add]; exact (Nat.zero_add _).symm
  | a + 1, b, k => by
    rw [show a + 1 + b = (a + b) + 1 by omega, tf_tS_s, tf_tS_s, tf_tS_add L K H t a b (k + 1), show k + 1 + a = k + (a + 1) by omega]
    omega
theorem tf_ti_tS {f : Nat → Nat} {h b t a p : Nat} : ∀ m k, (∀ i, k ≤ i → i < k + m → tf_hu f (a + i) = if i = 0 then 100 else p) → tf_ti f h b t a p m k = tf_tS (tf_ll f h) (tf_kk f b) (tf_hu f) t m (a + k)
  | 0, _, _ => rfl
  | m + 1, k, hh => by
    rw [tf_ti_s, tf_tS_s, tf_gL_gt, tf_ti_tS m (k + 1) (fun i h1 h2 => hh i (by omega) (by omega)), hh k (by omega) (by omega), show a + (k + 1) = a + k + 1 by omega]
    by_cases e : k = 0
    · subst e
      rw [if_pos rfl, if_pos rfl, Nat.mul_div_cancel _ (by decide)]
      rfl
    · rw [if_neg e, if_neg e]
theorem tf_tl_tS {f : Nat → Nat} (hg : tf_gd f) {h b t : Nat} : ∀ m j, tf_ps f j ≤ f 364 → f 364 - tf_ps f j ≤ m → tf_tl f h b t m (tf_ps f j) = tf_tS (tf_ll f h) (tf_kk f b) (tf_hu f) t (f 364 - tf_ps f j) (tf_ps f j)
  | 0, j, h1, h2 => by
    rw [show f 364 - tf_ps f j = 0 by omega]
    rfl
  | m + 1, j, h1, h2 => by
    rw [tf_tl_s]
    by_cases c : tf_ps f j < f 364
    · have g := hg.1.1
      have s1 := tf_sz_ge hg (tf_ps f j)
      have w := tf_wd_in hg c
      have jl := tf_ps_ge hg j
      have e := tf_ps_s (f := f) (j := j)
      rw [if_pos c, ← e, tf_tl_tS hg m (j + 1) (by omega) (by omega)]
      rw [tf_ti_tS (tf_sz f (tf_wd f (tf_ps f j))) 0 (fun i h3 h4 => by
        rw [tf_hu_at hg (j := j) (by omega) (by omega) (by omega)]
        by_cases q : i = 0
        · subst q; rw [if_pos (show tf_ps f j + 0 = tf_ps f j from rfl), if_pos rfl]
        · rw [if_neg q, if_neg (show ¬ tf_ps f j + i = tf_ps f j by omega)])]
      rw [Nat.add_zero, show f 364 - tf_ps f j = tf_sz f (tf_wd f (tf_ps f j)) + (f 364 - tf_ps f (j + 1)) by omega, tf_tS_add, ← e]
    · rw [if_neg c, show f 364 - tf_ps f j = 0 by omega]
      rfl
theorem tf_tm_tS {f : Nat → Nat} (hg : tf_gd f) (h b t : Nat) : tf_tm f h b t = tf_tS (tf_ll f h) (tf_kk f b) (tf_hu f) t (f 364) 0 :=
  tf_tl_tS hg 40 0 (Nat.zero_le _) (by have := hg.1.1; show f 364 - 0 ≤ 40; omega)
theorem tf_gL_c {L L' : Nat → Nat} (h : ∀ j, j < 6 → L' j = L j) (p q t : Nat) : tf_gL L' p q t = tf_gL L p q t := by
  unfold tf_gL
  rw [h 0 (by omega), h 1 (by omega), h 2 (by omega), h 3 (by omega), h 4 (by omega), h 5 (by omega)]
theorem tf_tS_c {L L' K K' H H' : Nat → Nat} {t n : Nat} (hL : ∀ j, j < 6 → L' j = L j) (hK : ∀ i, i < n → K' i = K i) (hH : ∀ i, i < n → H' i = H i) : ∀ m k, k + m = n → tf_tS L' K' H' t m k = tf_tS L K H t m k
  | 0, _, _ => rfl
  | m + 1, k, hk => by
    have hp : tf_pr K' k = tf_pr K k := by
      unfold tf_pr
      by_cases q : k = 0
      · rw [if_pos q, if_pos q]
      · rw [if_neg q, if_neg q]; exact hK _ (by omega)
    rw [tf_tS_s, tf_tS_s, hp, hK k (by omega), hH k (by omega), tf_gL_c hL, tf_tS_c hL hK hH m (k + 1) (by omega)]
/-! what speaks of the row from 120 on alone -/
theorem tf_sd_c {f f' : Nat → Nat} (h : ∀ k, 120 ≤ k → f' k = f k) (w i : Nat) : tf_sd f' w i = tf_sd f w i := by
  unfold tf_sd
  rw [h (224 + 10 * w + 1) (by omega), h (224 + 10 * w) (by omega), h 364 (by omega)]
  have e : (fun k => !(f' (144 + i + k) == f' (224 + 10 * w + 2 + k))) = fun k => !(f (144 + i + k) == f (224 + 10 * w + 2 + k)) := by
    funext k
    rw [h _ (by omega), h _ (by omega)]
  rw [e]
theorem tf_sz_c {f f' : Nat → Nat} (h : ∀ k, 120 ≤ k → f' k = f k) (w : Nat) : tf_sz f' w = tf_sz f w := by unfold tf_sz; rw [h _ (by omega)]
theorem tf_pt_c {f f' : Nat → Nat} (h : ∀ k, 120 ≤ k → f' k = f k) (w : Nat) : tf_pt f' w = tf_pt f w := by unfold tf_pt; rw [h _ (by omega)]
theorem tf_wl_c {f f' : Nat → Nat} (h : ∀ k, 120 ≤ k → f' k = f k) (i : Nat) : ∀ m w best, tf_wl f' i m w best = tf_wl f i m w best
  | 0, _, _ => rfl
  | m + 1, w, best => by rw [tf_wl_s, tf_wl_s, tf_sd_c h, tf_sz_c h, tf_sz_c h, tf_wl_c h i m]
theorem tf_wd_c {f f' : Nat → Nat} (h : ∀ k, 120 ≤ k → f' k = f k) (i : Nat) : tf_wd f' i = tf_wd f i := by unfold tf_wd; rw [h 366 (by omega), tf_wl_c h]
theorem tf_hg_c {f f' : Nat → Nat} (h : ∀ k, 120 ≤ k → f' k = f k) (i : Nat) : ∀ m a, tf_hg f' i m a = tf_hg f i m a
  | 0, _ => rfl
  | m + 1, a => by rw [tf_hg_s, tf_hg_s, tf_wd_c h, tf_sz_c h, tf_pt_c h, tf_hg_c h i m]
theorem tf_hu_c {f f' : Nat → Nat} (h : ∀ k, 120 ≤ k → f' k = f k) (i : Nat) : tf_hu f' i = tf_hu f i := tf_hg_c h i 41 0
/-! the keys behind an EXCHANGE -/
theorem tf_xc_xc {x y k : Nat} : tf_xc x y (tf_xc x y k) = k := by
  unfold tf_xc
  by_cases a : k = x
  · rw [if_pos a]
    by_cases c : y = x
    · rw [if_pos c]; omega
    · rw [if_neg c, if_pos rfl]; omega
  · rw [if_neg a]
    by_cases c : k = y
    · rw [if_pos c, if_pos rfl]; omega
    · rw [if_neg c, if_neg a, if_neg c]
theorem tf_ex_xc {f : Nat → Nat} {b x y i : Nat} (hi : i < 30) : tf_ex f b x y (30 * b + i) = f (30 * b + tf_xc x y i) := by
  rw [tf_ex_at]
  unfold tf_xc
  by_cases a : i = y
  · rw [if_pos (by omega)]
    by_cases c : i = x
    · rw [if_pos c]
      congr 1; omega
    · rw [if_neg c, if_pos a]
  · rw [if_neg (by omega)]
    by_cases c : i = x
    · rw [if_pos (by omega), if_pos c]
    · rw [if_neg (by omega), if_neg c, if_neg a]
theorem tf_ke_at {f : Nat → Nat} {b l : Nat} (h : tf_ke f b l < 30) : f (30 * b + tf_ke f b l) = l + 1 := by
  have := tf_fst_at (fun k => f (30 * b + k) == l + 1) 30 0 (by rw [Nat.zero_add]; exact h)
  unfold tf_ke
  simpa using this
theorem tf_ke_none {f : Nat → Nat} {b l i : Nat} (h : ¬ tf_ke f b l < 30) (hi : i < 30) : f (30 * b + i) ≠ l + 1 := by
  have := tf_fst_no (fun k => f (30 * b + k) == l + 1) 30 0 i (Nat.zero_le _) (by unfold tf_ke at h; omega)
  simpa using this
theorem tf_ke_u {f : Nat → Nat} {b l k : Nat} (hk : k < 30) (h1 : f (30 * b + k) = l + 1) (h2 : ∀ i, i < k → f (30 * b + i) ≠ l + 1) : tf_ke f b l = k :=
  tf_fst_eq _ (Nat.zero_le _) (by omega) (by simpa using h1) (fun i _ hi => by simpa using h2 i hi)
theorem tf_ke_ex {f : Nat → Nat} (hg : tf_gd f) {b x y : Nat} (hb : b < 4) (hx : x < 30) (hy : y < 30) (l : Nat) : tf_ke (tf_ex f b x y) b l = tf_xc x y (tf_ke f b l) := by
  by_cases c : tf_ke f b l < 30
  · have h1 := tf_ke_at c
    have h2 : tf_xc x y (tf_ke f b l) < 30 := by unfold tf_xc; split; omega; split <;> omega
    refine tf_ke_u h2 (by rw [tf_ex_xc h2, tf_xc_xc]; exact h1) (fun i hi e => ?_)
    rw [tf_ex_xc (by omega)] at e
    have h3 : tf_xc x y i < 30 := by unfold tf_xc; split; omega; split <;> omega
    have h4 := hg.2.2.2.2.2.2.2 b hb _ _ h3 c (e.trans h1.symm) (by omega)
    rw [← h4, tf_xc_xc] at hi
    omega
  · have h30 : tf_ke f b l = 30 := by have := tf_ke_le f b l; omega
    have : tf_ke (tf_ex f b x y) b l = 30 := tf_fst_end _ (m := 30) (k := 0) (fun i _ hi => by
      have h3 : tf_xc x y i < 30 := by unfold tf_xc; split; omega; split <;> omega
      have := tf_ke_none c h3
      rw [← tf_ex_xc (f := f) (b := b) (x := x) (y := y) (i := i) (by omega)] at this
      simpa using this)
    rw [this, h30]
    unfold tf_xc
    rw [if_neg (by omega), if_neg (by omega)]
theorem tf_tm_ex {f : Nat → Nat} (hg : tf_gd f) {h b x y : Nat} (hb : b < 4) (hx : x < 30) (hy : y < 30) : tf_tm (tf_ex f b x y) h b 0 = tf_tS (tf_ll f h) (fun j => tf_xc x y (tf_kk f b j)) (tf_hu f) 0 (f 364) 0 := by
  have e : ∀ k, 120 ≤ k → tf_ex f b x y k = f k := fun k hk => tf_ex_hi hb hx hy hk
  rw [tf_tm_tS (tf_ex_gd hg hb hx hy), e 364 (by omega)]
  refine tf_tS_c (n := f 364) (fun j _ => ?_) (fun i _ => ?_) (fun i _ => tf_hu_c e i) (f 364) 0 (by omega)
  · unfold tf_ll
    exact e _ (by omega)
  · show tf_ke (tf_ex f b x y) b (tf_ex f b x y (144 + i)) = tf_xc x y (tf_ke f b (f (144 + i)))
    rw [e _ (by omega), tf_ke_ex hg hb hx hy]
theorem tf_tm_un {f : Nat → Nat} (hg : tf_gd f) {h b x y : Nat} (hb : b < 4) (hx : x < 30) (hy : y < 30) (ux : ¬ tf_us (tf_kk f b) x (f 364) = true) (uy : ¬ tf_us (tf_kk f b) y (f 364) = true) : tf_tm (tf_ex f b x y) h b 0 = tf_tm f h b 0 := by
  rw [tf_tm_ex hg hb hx hy, tf_tm_tS hg]
  refine tf_tS_c (n := f 364) (fun j _ => rfl) (fun i hi => ?_) (fun i _ => rfl) (f 364) 0 (by omega)
  unfold tf_xc
  rw [if_neg (fun q => ux ((tf_us_iff _ _ _).mpr ⟨i, hi, q⟩)), if_neg (fun q => uy ((tf_us_iff _ _ _).mpr ⟨i, hi, q⟩))]
/-- a used key has a letter, so two of which one is used have not the same -/
theorem tf_us_ne {f : Nat → Nat} (hg : tf_gd f) {b x y : Nat} (hb : b < 4) (hx : x < 30) (hy : y < 30) (hxy : x ≠ y) (u : tf_us (tf_kk f b) x (f 364) = true ∨ tf_us (tf_kk f b) y (f 364) = true) : f (30 * b + x) ≠ f (30 * b + y) := by
  have nz : ∀ z, z < 30 → tf_us (tf_kk f b) z (f 364) = true → f (30 * b + z) ≠ 0 := by
    intro z hz h
    obtain ⟨i, h1, h2⟩ := (tf_us_iff _ _ _).mp h
    have h3 := tf_ke_at (f := f) (b := b) (l := f (144 + i)) (by show tf_kk f b i < 30; omega)
    rw [show tf_ke f b (f (144 + i)) = z from h2] at h3
    omega
  intro e
  rcases u with u | u
  · exact hxy (hg.2.2.2.2.2.2.2 b hb x y hx hy e (nz x hx u))
  · exact hxy (hg.2.2.2.2.2.2.2 b hb x y hx hy e (by rw [e]; exact nz y hy u))
/-- one step of BETTER, as the class makes it -/
theorem tf_b2_cl {f : Nat → Nat} (hg : tf_gd f) {h b x y : Nat} (hb : b < 4) (hx : x < 30) (hy : y < 30) (hxy : x ≠ y) {q : Nat × Nat} (hq : q.2 ≤ tf_tm f h b 0) : (if f (30 * b + x) = f (30 * b + y) then q else if q.2 ≤ tf_tm (tf_ex f b x y) h b 0 then q else (100 * x + y, tf_tm (tf_ex f b x y) h b 0)) = if (tf_us (tf_kk f b) x (f 364) = true ∨ tf_us (tf_kk f b) y (f 364) = true) ∧ tf_tm (tf_ex f b x y) h b 0 < q.2 then (100 * x + y, tf_tm (tf_ex f b x y) h b 0) else q := by
  by_cases u : tf_us (tf_kk f b) x (f 364) = true ∨ tf_us (tf_kk f b) y (f 364) = true
  · rw [if_neg (tf_us_ne hg hb hx hy hxy u)]
    by_cases c : q.2 ≤ tf_tm (tf_ex f b x y) h b 0
    · rw [if_pos c, if_neg (fun z => absurd z.2 (by omega))]
    · rw [if_neg c, if_pos ⟨u, by omega⟩]
  · have e := tf_tm_un hg (h := h) hb hx hy (fun z => u (Or.inl z)) (fun z => u (Or.inr z))
    rw [if_neg (show ¬ ((tf_us (tf_kk f b) x (f 364) = true ∨ tf_us (tf_kk f b) y (f 364) = true) ∧ tf_tm (tf_ex f b x y) h b 0 < q.2) from fun z => u z.1), e, if_pos hq]
    by_cases c : f (30 * b + x) = f (30 * b + y)
    · rw [if_pos c]
    · rw [if_neg c]
