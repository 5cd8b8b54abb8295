/-! EVERY CALL KEEPS THE STATE GOOD -/
theorem gd_cf {f f' : Nat → Nat} (hg : tf_gd f) (u : ∀ k, k < 368 → f' k = f k) : tf_gd f' := by
  obtain ⟨⟨g1, g2, g3, g4⟩, g5, g6, g7, g8, g9, g10, g11⟩ := hg
  refine ⟨⟨by rw [u _ (by omega)]; exact g1, by rw [u _ (by omega)]; exact g2, by rw [u _ (by omega)]; exact g3, by rw [u _ (by omega)]; exact g4⟩, fun z hz => ?_, fun i hi => ?_, fun i hi => ?_, fun z hz j hj => ?_, fun i hi => ?_, fun k hk => ?_, fun b hb k j hk hj h0 h1 => ?_⟩
  · rw [u _ (by omega)] at hz; have g5z := g5 z hz; rw [u _ (by omega)]; exact g5z
  · rw [u _ (by omega)] at hi; rw [u _ (by omega)]; exact g6 i hi
  · rw [u _ (by omega)] at hi; rw [u _ (by omega)]; exact g7 i hi
  · rw [u _ (by omega)] at hz; have g5z := g5 z hz; rw [u _ (by omega)] at hj; rw [u _ (by omega)]; exact g8 z hz j hj
  · rw [u _ (by omega)]; exact g9 i hi
  · rw [u _ (by omega)]; exact g10 k hk
  · rw [u _ (by omega), u _ (by omega)] at h0; rw [u _ (by omega)] at h1; exact g11 b hb k j hk hj h0 h1
theorem gd_law {f : Nat → Nat} {h l v : Nat} (hg : tf_gd f) (hh : h < 4) (hl : l < 6) (hv : v ≤ 999) : tf_gd (tf_u f (120 + 6 * h + l) v) := by
  have u : ∀ k, (k < 120 ∨ 144 ≤ k) → tf_u f (120 + 6 * h + l) v k = f k := fun k hk => if_neg (by omega)
  obtain ⟨⟨g1, g2, g3, g4⟩, g5, g6, g7, g8, g9, g10, g11⟩ := hg
  refine ⟨⟨by rw [u _ (by omega)]; exact g1, by rw [u _ (by omega)]; exact g2, by rw [u _ (by omega)]; exact g3, by rw [u _ (by omega)]; exact g4⟩, fun z hz => ?_, fun i hi => ?_, fun i hi => ?_, fun z hz j hj => ?_, fun i hi => ?_, fun k hk => ?_, fun b hb k j hk hj h0 h1 => ?_⟩
  · rw [u _ (by omega)] at hz; have g5z := g5 z hz; rw [u _ (by omega)]; exact g5z
  · rw [u _ (by omega)] at hi; rw [u _ (by omega)]; exact g6 i hi
  · rw [u _ (by omega)] at hi; rw [u _ (by omega)]; exact g7 i hi
  · rw [u _ (by omega)] at hz; have g5z := g5 z hz; rw [u _ (by omega)] at hj; rw [u _ (by omega)]; exact g8 z hz j hj
  · by_cases q : 120 + i = 120 + 6 * h + l
    · exact Nat.le_trans (Nat.le_of_eq (if_pos q)) hv
    · exact Nat.le_trans (Nat.le_of_eq (if_neg q)) (g9 i hi)
  · rw [u _ (by omega)]; exact g10 k hk
  · rw [u _ (by omega), u _ (by omega)] at h0; rw [u _ (by omega)] at h1; exact g11 b hb k j hk hj h0 h1
theorem gd_prac {f : Nat → Nat} {w v : Nat} (hg : tf_gd f) (hw : w < f 366) : tf_gd (tf_u f (224 + 10 * w + 1) v) := by
  have g := hg.1
  have u : ∀ k, k ≠ 224 + 10 * w + 1 → tf_u f (224 + 10 * w + 1) v k = f k := fun k hk => if_neg hk
  obtain ⟨⟨g1, g2, g3, g4⟩, g5, g6, g7, g8, g9, g10, g11⟩ := hg
  refine ⟨⟨by rw [u _ (by omega)]; exact g1, by rw [u _ (by omega)]; exact g2, by rw [u _ (by omega)]; exact g3, by rw [u _ (by omega)]; exact g4⟩, fun z hz => ?_, fun i hi => ?_, fun i hi => ?_, fun z hz j hj => ?_, fun i hi => ?_, fun k hk => ?_, fun b hb k j hk hj h0 h1 => ?_⟩
  · rw [u _ (by omega)] at hz; have g5z := g5 z hz; rw [u _ (by omega)]; exact g5z
  · rw [u _ (by omega)] at hi; rw [u _ (by omega)]; exact g6 i hi
  · rw [u _ (by omega)] at hi; rw [u _ (by omega)]; exact g7 i hi
  · rw [u _ (by omega)] at hz; have g5z := g5 z hz; rw [u _ (by omega)] at hj; rw [u _ (by omega)]; exact g8 z hz j hj
  · rw [u _ (by omega)]; exact g9 i hi
  · rw [u _ (by omega)]; exact g10 k hk
  · rw [u _ (by omega), u _ (by omega)] at h0; rw [u _ (by omega)] at h1; exact g11 b hb k j hk hj h0 h1
theorem gd_put {f : Nat → Nat} {v : Nat} (hg : tf_gd f) (h40 : f 367 < 40) : tf_gd (tf_u (tf_u f (324 + f 367) v) 367 (f 367 + 1)) := by
  have g := hg.1
  have u : ∀ k, (k < 324 ∨ 364 ≤ k) → k ≠ 367 → tf_u (tf_u f (324 + f 367) v) 367 (f 367 + 1) k = f k := fun k h1 h2 => (if_neg h2).trans (if_neg (by omega))
  obtain ⟨⟨g1, g2, g3, g4⟩, g5, g6, g7, g8, g9, g10, g11⟩ := hg
  refine ⟨⟨by rw [u _ (by omega) (by omega)]; exact g1, by rw [u _ (by omega) (by omega)]; exact g2, by rw [u _ (by omega) (by omega)]; exact g3, by rw [show tf_u (tf_u f (324 + f 367) v) 367 (f 367 + 1) 367 = f 367 + 1 from if_pos rfl]; omega⟩, fun z hz => ?_, fun i hi => ?_, fun i hi => ?_, fun z hz j hj => ?_, fun i hi => ?_, fun k hk => ?_, fun b hb k j hk hj h0 h1 => ?_⟩
  · rw [u _ (by omega) (by omega)] at hz; have g5z := g5 z hz; rw [u _ (by omega) (by omega)]; exact g5z
  · rw [u _ (by omega) (by omega)] at hi; rw [u _ (by omega) (by omega)]; exact g6 i hi
  · rw [u _ (by omega) (by omega)] at hi; rw [u _ (by omega) (by omega)]; exact g7 i hi
  · rw [u _ (by omega) (by omega)] at hz; have g5z := g5 z hz; rw [u _ (by omega) (by omega)] at hj; rw [u _ (by omega) (by omega)]; exact g8 z hz j hj
  · rw [u _ (by omega) (by omega)]; exact g9 i hi
  · rw [u _ (by omega) (by omega)]; exact g10 k hk
  · rw [u _ (by omega) (by omega), u _ (by omega) (by omega)] at h0; rw [u _ (by omega) (by omega)] at h1; exact g11 b hb k j hk hj h0 h1
theorem gd_unput {f : Nat → Nat} (hg : tf_gd f) : tf_gd (tf_u f 367 0) := by
  have g := hg.1
  have u : ∀ k, k ≠ 367 → tf_u f 367 0 k = f k := fun k hk => if_neg hk
  obtain ⟨⟨g1, g2, g3, g4⟩, g5, g6, g7, g8, g9, g10, g11⟩ := hg
  refine ⟨⟨by rw [u _ (by omega)]; exact g1, by rw [u _ (by omega)]; exact g2, by rw [u _ (by omega)]; exact g3, by rw [show tf_u f 367 0 367 = 0 from if_pos rfl]; omega⟩, fun z hz => ?_, fun i hi => ?_, fun i hi => ?_, fun z hz j hj => ?_, fun i hi => ?_, fun k hk => ?_, fun b hb k j hk hj h0 h1 => ?_⟩
  · rw [u _ (by omega)] at hz; have g5z := g5 z hz; rw [u _ (by omega)]; exact g5z
  · rw [u _ (by omega)] at hi; rw [u _ (by omega)]; exact g6 i hi
  · rw [u _ (by omega)] at hi; rw [u _ (by omega)]; exact g7 i hi
  · rw [u _ (by omega)] at hz; have g5z := g5 z hz; rw [u _ (by omega)] at hj; rw [u _ (by omega)]; exact g8 z hz j hj
  · rw [u _ (by omega)]; exact g9 i hi
  · rw [u _ (by omega)]; exact g10 k hk
  · rw [u _ (by omega), u _ (by omega)] at h0; rw [u _ (by omega)] at h1; exact g11 b hb k j hk hj h0 h1
theorem u_lt {f : Nat → Nat} {k v n : Nat} (h : ∀ k, f k < n) (hv : v < n) : ∀ j, tf_u f k v j < n := by
  intro j
  unfold tf_u
  split
  · exact hv
  · exact h j
theorem ok_ref {A : tf_A} (h : tf_okA A) (k : Nat) : tf_okA (tA_ref A k) := h
theorem ok_f {A : tf_A} (h : tf_okA A) {f : Nat → Nat} (hg : tf_gd f) (hb : ∀ k, f k < 10000) : tf_okA (tA_f A f) := ⟨hg, hb, h.2.2⟩
theorem ok_t {A : tf_A} (h : tf_okA A) {T : Nat → Nat} {n : Nat} (hn : n ≤ 48) (hT : ∀ k, T k < 256) : tf_okA (tA_t A T n) := ⟨h.1, h.2.1, hn, hT, h.2.2.2.2⟩
theorem tv2_lt {c : Nat} (h : c < 256) : tf_tv2 c < 10000 := by unfold tf_tv2; split <;> omega
theorem tw_lt {f T : Nat → Nat} {a n : Nat} (h : ∀ k, f k < 10000) (hT : ∀ k, T k < 256) : ∀ k, tf_tw f T a n k < 10000 := by
  intro k
  unfold tf_tw
  split
  · exact tv2_lt (hT _)
  · exact h k
theorem bw_lt {f T : Nat → Nat} {b n : Nat} (h : ∀ k, f k < 10000) (hT : ∀ k, T k < 256) : ∀ k, tf_bw f T b n k < 10000 := by
  intro k
  unfold tf_bw
  split
  · unfold tf_bv
    have := hT ((k - 30 * b) + (k - 30 * b) / 10)
    split <;> omega
  · exact h k
theorem mx_lt {f g : Nat → Nat} {n : Nat} (h : ∀ k, f k < 10000) (h2 : ∀ k, g k < 10000) : ∀ k, tf_mx f g n k < 10000 := by
  intro k
  unfold tf_mx
  split
  · exact h k
  · exact h2 k
theorem cm_ok {h b : Nat} (hb : b < 4) : ∀ m k f, tf_gd f → (∀ j, f j < 10000) → tf_gd (tf_cm h b m k f).2 ∧ ∀ j, (tf_cm h b m k f).2 j < 10000
  | 0, _, _, hg, h1 => ⟨hg, h1⟩
  | m + 1, k, f, hg, h1 => by
    rw [tf_cm_s]
    by_cases c : tf_be f h b < 3000
    · rw [if_pos c]
      have bo := (tf_be_ok f h b).resolve_left (by omega)
      exact cm_ok hb m (k + 1) _ (tf_ex_gd hg hb (by omega) (by omega)) (tf_ex_le h1)
    · rw [if_neg c]
      exact ⟨hg, h1⟩
theorem fd_lt {T : Nat → Nat} {tn n : Nat} {x : Int64} (h : ∀ k, T k < 256) : ∀ k, tf_fd T tn x n k < 256 := by
  intro k
  unfold tf_fd
  split
  · exact tf_by_le _ _
  · exact h k
theorem i_num {x : Int32} {n M : Nat} (h0 : ¬ x < 0) (h1 : ¬ nI n ≤ x) (hn : n < 2147483648) : x.toNatClampNeg < n := by
  obtain ⟨j, hj, rfl⟩ := nI_of h0
  rw [tf_cl_nI hj]
  exact Nat.not_le.mp fun q => h1 (nI_le q hj)
theorem i_le {x : Int32} {n : Nat} (h1 : ¬ nI n < x) (hn : n < 2147483648) : x.toNatClampNeg ≤ n := by
  by_cases h0 : x < 0
  · have : x.toNatClampNeg = 0 := by
      have h2 : x.toInt < 0 := by rw [Int32.lt_iff_toInt_lt] at h0; exact h0
      unfold Int32.toNatClampNeg
      omega
    omega
  · obtain ⟨j, hj, rfl⟩ := nI_of h0
    rw [tf_cl_nI hj]
    exact Nat.not_lt.mp fun q => h1 (nI_lt q hj)
theorem i_ge {x : Int32} {n : Nat} (h : nI n ≤ x) (hn : n < 2147483648) : n ≤ x.toNatClampNeg := by
  have h0 : ¬ x < 0 := fun q => absurd (Int32.lt_of_le_of_lt h q) (nI_pos hn)
  obtain ⟨j, hj, rfl⟩ := nI_of h0
  rw [tf_cl_nI hj]
  exact Nat.not_lt.mp fun q => absurd h (nI_ge q hn)
theorem ok_keyOf {A : tf_A} (b l : Int32) (hA : tf_okA A) : tf_okA (s_keyOf A b l).2 := by
  unfold s_keyOf
  split
  · exact hA
  · exact hA
theorem ok_letterOn {A : tf_A} (b k : Int32) (hA : tf_okA A) : tf_okA (s_letterOn A b k).2 := by
  unfold s_letterOn
  split
  · exact hA
  · exact hA
theorem ok_fingerOf {A : tf_A} (k : Int32) (t : Nat) (hA : tf_okA A) : tf_okA (s_fingerOf A k t).2 := by
  unfold s_fingerOf
  split
  · exact hA
  · exact hA
theorem ok_gap {A : tf_A} (h b p q : Int32) (hA : tf_okA A) : tf_okA (s_gap A h b p q).2 := by
  unfold s_gap
  split
  · exact hA
  · exact hA
theorem ok_piece {A : tf_A} (i w : Int32) (hA : tf_okA A) : tf_okA (s_piece A i w).2 := by
  unfold s_piece
  split
  · exact hA
  · exact hA
theorem ok_time {A : tf_A} (h b : Int32) (t : Nat) (hA : tf_okA A) : tf_okA (s_time A h b t).2 := by
  unfold s_time
  split
  · exact hA
  · exact hA
theorem ok_better {A : tf_A} (h b : Int32) (hA : tf_okA A) : tf_okA (s_better A h b).2 := by
  unfold s_better
  split
  · exact hA
  · exact hA
theorem ok_far {A : tf_A} (h b : Int32) (hA : tf_okA A) : tf_okA (s_far A h b).2 := by
  unfold s_far
  split
  · exact hA
  · exact hA
theorem ok_may {A : tf_A} (b : Int32) (hA : tf_okA A) : tf_okA (s_may A b).2 := by
  unfold s_may
  split
  · exact hA
  · exact hA
theorem ok_ache {A : tf_A} (b c : Int32) (hA : tf_okA A) : tf_okA (s_ache A b c).2 := by
  unfold s_ache
  split
  · exact hA
  · exact hA
theorem ok_pieces {A : tf_A}  (hA : tf_okA A) : tf_okA (s_pieces A ).2 := hA
theorem ok_count {A : tf_A} (w : Int32) (hA : tf_okA A) : tf_okA (s_count A w).2 := hA
theorem ok_sign {A : tf_A} (t : Nat) (i : Int32) (hA : tf_okA A) : tf_okA (s_sign A t i).2 := by
  unfold s_sign
  repeat (first | exact hA | split)
theorem ok_where {A : tf_A} (b k : Int32) (hA : tf_okA A) : tf_okA (s_where A b k).2 := by
  unfold s_where
  repeat (first | exact hA | split)
theorem ok_span {A : tf_A} (b l : Int32) (g : Nat) (hA : tf_okA A) : tf_okA (s_span A b l g).2 := by
  unfold s_span
  repeat (first | exact hA | split)
theorem ok_nearest {A : tf_A} (b : Int32) (hA : tf_okA A) : tf_okA (s_nearest A b).2 := by
  unfold s_nearest
  repeat (first | exact hA | split)
theorem ok_pauses {A : tf_A} (b l r : Int32) (hA : tf_okA A) : tf_okA (s_pauses A b l r).2 := by
  unfold s_pauses
  repeat (first | exact hA | split)
theorem ok_pace {A : tf_A} (h b p d : Int32) (hA : tf_okA A) : tf_okA (s_pace A h b p d).2 := by
  unfold s_pace
  repeat (first | exact hA | split)
theorem ok_soonest {A : tf_A} (h b d : Int32) (hA : tf_okA A) : tf_okA (s_soonest A h b d).2 := by
  unfold s_soonest
  repeat (first | exact hA | split)
theorem ok_summer {A : tf_A} (st ep ga : Int32) (hA : tf_okA A) : tf_okA (s_summer A st ep ga).2 := by
  unfold s_summer
  repeat (first | exact hA | split)
theorem ok_law {A : tf_A} (h l v : Int32) (hA : tf_okA A) : tf_okA (s_law A h l v).2 := by
  unfold s_law
  split
  · next c =>
    split
    · exact hA
    · next e1 =>
      split
      · exact hA
      · next e2 =>
        have v9 : v.toNatClampNeg ≤ 999 := i_le (n := 999) (Int32.not_lt.mpr (Classical.not_not.mp e2)) (by decide)
        exact ok_f hA (gd_law hA.1 (i_num (M := 0) c.1.1 c.1.2 (by decide)) (i_num (M := 0) c.2.1 c.2.2 (by decide)) v9) (u_lt hA.2.1 (by omega))
  · exact hA
theorem ok_practise {A : tf_A} (w n : Int32) (hA : tf_okA A) : tf_okA (s_practise A w n).2 := by
  unfold s_practise
  split
  · next c =>
    split
    · exact hA
    · split
      · exact hA
      · have g := hA.1.1
        exact ok_f hA (gd_prac hA.1 (i_num (M := 0) c.1 c.2 (by omega))) (u_lt hA.2.1 (by split <;> omega))
  · exact hA
theorem ok_exchange {A : tf_A} (b x y : Int32) (hA : tf_okA A) : tf_okA (s_exchange A b x y).2 := by
  unfold s_exchange
  split
  · next c => exact ok_f hA (tf_ex_gd hA.1 (i_num (M := 0) c.1.1 c.1.2 (by decide)) (i_num (M := 0) c.2.1.1 c.2.1.2 (by decide)) (i_num (M := 0) c.2.2.1.1 c.2.2.1.2 (by decide))) (tf_ex_le hA.2.1)
  · exact hA
theorem ok_climb {A : tf_A} (h b n : Int32) (hA : tf_okA A) : tf_okA (s_climb A h b n).2 := by
  unfold s_climb
  split
  · next c =>
    split
    · exact hA
    · split
      · exact hA
      · have k := cm_ok (h := h.toNatClampNeg) (i_num (M := 0) c.2.1 c.2.2 (by decide)) n.toNatClampNeg 0 A.1 hA.1 hA.2.1
        exact ok_f hA k.1 k.2
  · exact hA
theorem ok_put {A : tf_A} (v : Int32) (hA : tf_okA A) : tf_okA (s_put A v).2 := by
  unfold s_put
  split
  · exact hA
  · split
    · exact hA
    · next e =>
      have g := hA.1.1
      have h40 : A.1 367 < 40 := by
        have : A.1 367 ≠ 40 := fun q => e (Or.inr q)
        omega
      have v9 : v.toNatClampNeg ≤ 9999 := i_le (n := 9999) (fun q => e (Or.inl (Int32.not_le.mpr q))) (by decide)
      exact ok_f hA (gd_put hA.1 h40) (u_lt (u_lt hA.2.1 (by omega)) (by omega))
theorem ok_unput {A : tf_A} (hA : tf_okA A) : tf_okA (s_unput A).2 := ok_f hA (gd_unput hA.1) (u_lt hA.2.1 (by decide))
theorem ok_image {A : tf_A} (hA : tf_okA A) : tf_okA (s_image A).2 := ⟨hA.1, hA.2.1, hA.2.2.1, hA.2.2.2.1, mx_lt hA.2.1 hA.2.2.2.2.1, Or.inr ⟨rfl, gd_cf hA.1 (fun k hk => if_pos hk)⟩⟩
theorem ok_on {A : tf_A} (hA : tf_okA A) : tf_okA (s_on A).2 := by
  unfold s_on
  split
  · exact hA
  · next e =>
    have g := (hA.2.2.2.2.2.resolve_left e).2
    exact ok_f hA (gd_cf g (fun k hk => if_pos hk)) (mx_lt hA.2.2.2.2.1 hA.2.1)
theorem ok_feed {A : tf_A} (n : Int32) (y : Int64) (hA : tf_okA A) : tf_okA (s_feed A n y).2 := by
  unfold s_feed
  split
  · exact hA
  · split
    · exact hA
    · next e => exact ok_t hA (Nat.not_lt.mp fun q => e (Or.inr q)) (fd_lt hA.2.2.2.1)
theorem ok_board {A : tf_A} (b : Int32) (hA : tf_okA A) : tf_okA (s_board A b).2 := by
  unfold s_board
  split
  · next c =>
    split
    · exact ok_t hA (Nat.zero_le _) hA.2.2.2.1
    · next e => exact ok_f (ok_t hA (Nat.zero_le _) hA.2.2.2.1) (tf_bw_gd hA e (i_num (M := 0) c.1 c.2 (by decide))) (bw_lt hA.2.1 hA.2.2.2.1)
  · exact hA
theorem ok_text {A : tf_A} (t : Nat) (hA : tf_okA A) : tf_okA (s_text A t).2 := by
  unfold s_text
  split
  · exact hA
  · next e1 =>
    by_cases q : t = 0
    · rw [show (if t ≠ 0 then 0 else 1) = 1 from if_neg (fun z => z q), show (if t ≠ 0 then 364 else 365) = 365 from if_neg (fun z => z q), show (if t ≠ 0 then 144 else 184) = 184 from if_neg (fun z => z q)]
      split
      · exact ok_t hA (Nat.zero_le _) hA.2.2.2.1
      · next e2 => exact ok_f (ok_t hA (Nat.zero_le _) hA.2.2.2.1) (tf_tw_gd184 hA (by omega) (tf_lf_no e2)) (u_lt (tw_lt hA.2.1 hA.2.2.2.1) (by omega))
    · rw [show (if t ≠ 0 then 0 else 1) = 0 from if_pos q, show (if t ≠ 0 then 364 else 365) = 364 from if_pos q, show (if t ≠ 0 then 144 else 184) = 144 from if_pos q]
      split
      · exact ok_t hA (Nat.zero_le _) hA.2.2.2.1
      · next e2 => exact ok_f (ok_t hA (Nat.zero_le _) hA.2.2.2.1) (tf_tw_gd144 hA (by omega) (tf_lf_no e2)) (u_lt (tw_lt hA.2.1 hA.2.2.2.1) (by omega))
theorem ok_word {A : tf_A} (hA : tf_okA A) : tf_okA (s_word A).2 := by
  unfold s_word
  split
  · exact hA
  · next e0 =>
    split
    · exact ok_t hA (Nat.zero_le _) hA.2.2.2.1
    · next e2 =>
      split
      · exact ok_t hA (Nat.zero_le _) hA.2.2.2.1
      · next e3 =>
        have g := hA.1.1
        exact ok_f (ok_t hA (Nat.zero_le _) hA.2.2.2.1) (tf_wf2_gd hA (by omega) (by omega) (by omega) (tf_lf_no e2)) (u_lt (tw_lt (u_lt (u_lt hA.2.1 (by omega)) (by decide)) hA.2.2.2.1) (by omega))

