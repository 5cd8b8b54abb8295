/-! SLIPS as the class tells them -/
theorem tf_fst_all (P : Nat → Bool) {m k : Nat} : tf_fst P m k = k + m ↔ ∀ i, k ≤ i → i < k + m → P i = false := ⟨fun h i h1 h2 => tf_fst_no P m k i h1 (by omega), fun h => tf_fst_end P h⟩
theorem tf_all_iff (P : Nat → Bool) : ∀ m k, tf_all P m k = true ↔ ∀ i, k ≤ i → i < k + m → P i = true
  | 0, k => ⟨fun _ i h1 h2 => by omega, fun _ => rfl⟩
  | m + 1, k => by
    rw [tf_all_s, Bool.and_eq_true, tf_all_iff P m (k + 1)]
    constructor
    · rintro ⟨h1, h2⟩ i h3 h4
      by_cases q : i = k
      · rw [q]; exact h1
      · exact h2 i (by omega) (by omega)
    · intro h
      exact ⟨h k (by omega) (by omega), fun i h3 h4 => h i (by omega) (by omega)⟩
def tf_mn (f : Nat → Nat) : Nat := if f 365 < f 364 then f 365 else f 364
/-- the first place where the texts differ; the shorter one's end -/
def tf_fU (f : Nat → Nat) : Nat := tf_dn f (tf_mn f)
theorem tf_mn_le (f : Nat → Nat) : tf_mn f ≤ f 364 ∧ tf_mn f ≤ f 365 := by unfold tf_mn; split <;> omega
theorem tf_mn_or (f : Nat → Nat) : tf_mn f = f 364 ∨ tf_mn f = f 365 := by unfold tf_mn; split <;> omega
theorem tf_df_f {f : Nat → Nat} {i : Nat} : tf_df f i = false ↔ f (144 + i) = f (184 + i) := by unfold tf_df; simp
theorem tf_df_t {f : Nat → Nat} {i : Nat} : tf_df f i = true ↔ f (144 + i) ≠ f (184 + i) := by unfold tf_df; simp
theorem tf_fU_le (f : Nat → Nat) : tf_fU f ≤ f 364 ∧ tf_fU f ≤ f 365 := by
  have h := tf_fst_le (tf_df f) (tf_mn f) 0
  have h2 := tf_mn_le f
  unfold tf_fU tf_dn
  omega
theorem tf_fU_eq {f : Nat → Nat} {i : Nat} (h : i < tf_fU f) : f (144 + i) = f (184 + i) := tf_df_f.mp (tf_fst_no (tf_df f) (tf_mn f) 0 i (Nat.zero_le _) h)
theorem tf_fU_ne {f : Nat → Nat} (h1 : tf_fU f < f 364) (h2 : tf_fU f < f 365) : f (144 + tf_fU f) ≠ f (184 + tf_fU f) :=
  tf_df_t.mp (tf_fst_at (tf_df f) (tf_mn f) 0 (by show tf_fU f < 0 + tf_mn f; rcases tf_mn_or f with h | h <;> omega))
theorem tf_fU_ge {f : Nat → Nat} {j : Nat} (h1 : j ≤ f 364) (h2 : j ≤ f 365) (h : ∀ i, i < j → f (144 + i) = f (184 + i)) : j ≤ tf_fU f := by
  apply Nat.le_of_not_lt
  intro q
  exact tf_fU_ne (f := f) (by omega) (by omega) (h _ q)
/-- the rests are the same -/
def tf_rs (f : Nat → Nat) (a b : Nat) : Bool := decide (f 365 - b = f 364 - a) && decide (tf_fst (fun i => !(f (144 + (a + i)) == f (184 + (b + i)))) (f 364 - a) 0 = f 364 - a)
theorem tf_rs_iff {f : Nat → Nat} {a b : Nat} : tf_rs f a b = true ↔ f 365 - b = f 364 - a ∧ ∀ i, i < f 364 - a → f (144 + (a + i)) = f (184 + (b + i)) := by
  unfold tf_rs
  rw [Bool.and_eq_true, decide_eq_true_eq, decide_eq_true_eq]
  have h := tf_fst_all (fun i => !(f (144 + (a + i)) == f (184 + (b + i)))) (m := f 364 - a) (k := 0)
  rw [Nat.zero_add] at h
  rw [h]
  constructor
  · rintro ⟨h1, h2⟩
    exact ⟨h1, fun i hi => by simpa using h2 i (Nat.zero_le _) hi⟩
  · rintro ⟨h1, h2⟩
    exact ⟨h1, fun i _ hi => by simpa using h2 i hi⟩
theorem tf_rs_df {f : Nat → Nat} {p : Nat} (h : f 365 = f 364) (hp : p ≤ f 364) : tf_fst (tf_df f) (f 364 - p) p = f 364 ↔ tf_rs f p p = true := by
  rw [tf_rs_iff]
  constructor
  · intro q
    refine ⟨by omega, fun i hi => ?_⟩
    exact tf_df_f.mp (tf_fst_no (tf_df f) (f 364 - p) p (p + i) (by omega) (by rw [q]; omega))
  · rintro ⟨-, q⟩
    rw [tf_fst_end (tf_df f) (m := f 364 - p) (k := p) (fun i h1 h2 => tf_df_f.mpr (by have := q (i - p) (by omega); rw [show p + (i - p) = i by omega] at this; exact this))]
    omega
theorem tf_dn_U {f : Nat → Nat} (h : f 365 = f 364) : tf_dn f (f 364) = tf_fU f := by unfold tf_fU tf_mn; rw [if_neg (by omega)]
theorem tf_sl_eq (f : Nat → Nat) : tf_sl f = if tf_fU f < f 364 ∧ tf_fU f < f 365 ∧ f (184 + tf_fU f) ≠ 26 ∧ tf_rs f (tf_fU f + 1) (tf_fU f + 1) = true then tf_fU f else 41 := by
  unfold tf_sl
  by_cases h : f 365 = f 364
  · rw [tf_dn_U h]
    exact ite_congr (propext ⟨fun ⟨_, h2, h3, h4⟩ => ⟨h2, by omega, h4, (tf_rs_df h (by omega)).mp h3⟩, fun ⟨h1, _, h3, h4⟩ => ⟨h, h1, (tf_rs_df h (by omega)).mpr h4, h3⟩⟩) (fun _ => rfl) (fun _ => rfl)
  · rw [if_neg (fun q => h q.1), if_neg]
    rintro ⟨h1, h2, h3, h4⟩
    have := (tf_rs_iff.mp h4).1
    omega
theorem tf_sl_ne {f : Nat → Nat} (h : tf_sl f < 41) : f (144 + tf_sl f) ≠ f (184 + tf_sl f) := by
  rw [tf_sl_eq] at h ⊢
  split at h
  · next c => rw [if_pos c]; exact tf_fU_ne c.1 c.2.1
  · omega
theorem tf_sw_eq (f : Nat → Nat) : tf_sw f = if tf_fU f + 1 < f 364 ∧ tf_fU f + 1 < f 365 ∧ f (184 + tf_fU f) = f (144 + (tf_fU f + 1)) ∧ f (184 + (tf_fU f + 1)) = f (144 + tf_fU f) ∧ tf_rs f (tf_fU f + 2) (tf_fU f + 2) = true then tf_fU f else 41 := by
  unfold tf_sw
  by_cases h : f 365 = f 364
  · rw [tf_dn_U h]
    exact ite_congr (propext ⟨fun ⟨_, h2, h3, h4, h5⟩ => ⟨h2, by omega, h4.symm, h3.symm, (tf_rs_df h (by omega)).mp h5⟩, fun ⟨h1, _, h3, h4, h5⟩ => ⟨h, h1, h4.symm, h3.symm, (tf_rs_df h (by omega)).mpr h5⟩⟩) (fun _ => rfl) (fun _ => rfl)
  · rw [if_neg (fun q => h q.1), if_neg]
    rintro ⟨h1, h2, h3, h4, h5⟩
    have := (tf_rs_iff.mp h5).1
    omega
theorem tf_do_eq (f : Nat → Nat) : tf_do f = if tf_sl f < 41 ∧ 1 ≤ tf_sl f ∧ tf_sl f + 1 < f 364 ∧ ((f (144 + (tf_sl f - 1)) = f (144 + tf_sl f) ∧ f (144 + (tf_sl f + 1)) = f (184 + tf_sl f)) ∨ (f (144 + (tf_sl f - 1)) = f (184 + tf_sl f) ∧ f (144 + (tf_sl f + 1)) = f (144 + tf_sl f))) then tf_sl f - 1 else 41 := by
  unfold tf_do
  refine ite_congr (propext ⟨?_, ?_⟩) (fun _ => rfl) (fun _ => rfl)
  · rintro ⟨h1, h2, h3, h4⟩
    rw [show 144 + tf_sl f - 1 = 144 + (tf_sl f - 1) by omega, Nat.add_assoc] at h4
    refine ⟨h1, h2, h3, ?_⟩
    rcases h4 with h4 | h4
    · exact Or.inl ⟨h4.1.symm, h4.2.1.symm⟩
    · exact Or.inr ⟨h4.2.1.symm, h4.1.symm⟩
  · rintro ⟨h1, h2, h3, h4⟩
    have hn := tf_sl_ne h1
    rw [show 144 + tf_sl f - 1 = 144 + (tf_sl f - 1) by omega, Nat.add_assoc]
    refine ⟨h1, h2, h3, ?_⟩
    rcases h4 with h4 | h4
    · exact Or.inl ⟨h4.1.symm, h4.2.symm, by rw [h4.1, h4.2]; exact hn⟩
    · exact Or.inr ⟨h4.2.symm, h4.1.symm, by rw [h4.1, h4.2]; exact Ne.symm hn⟩
theorem tf_ea_eq (f : Nat → Nat) : tf_ea f = if tf_sl f < 41 ∧ ((tf_sl f + 1 < f 364 ∧ f (144 + (tf_sl f + 1)) = f (184 + tf_sl f)) ∨ (tf_sl f + 2 < f 364 ∧ f (144 + (tf_sl f + 2)) = f (184 + tf_sl f))) then tf_sl f else 41 := rfl
/-- back to the first of like letters -/
def tf_dw (f : Nat → Nat) (p : Nat) : Nat → Nat
  | 0 => 0
  | q + 1 => if f (144 + q) = f (144 + p) then tf_dw f p q else q + 1
theorem tf_dw_s {f : Nat → Nat} {p q : Nat} : tf_dw f p (q + 1) = if f (144 + q) = f (144 + p) then tf_dw f p q else q + 1 := rfl
theorem tf_dw_ok (f : Nat → Nat) (p : Nat) : ∀ q, tf_dw f p q ≤ q ∧ (∀ i, tf_dw f p q ≤ i → i < q → f (144 + i) = f (144 + p)) ∧ (tf_dw f p q = 0 ∨ f (144 + (tf_dw f p q - 1)) ≠ f (144 + p))
  | 0 => ⟨Nat.le_refl _, fun i _ h => absurd h (Nat.not_lt_zero i), Or.inl rfl⟩
  | q + 1 => by
    obtain ⟨h1, h2, h3⟩ := tf_dw_ok f p q
    rw [tf_dw_s]
    split
    · next h =>
      refine ⟨by omega, fun i h4 h5 => ?_, h3⟩
      by_cases e : i = q
      · rw [e]; exact h
      · exact h2 i h4 (by omega)
    · next h =>
      exact ⟨Nat.le_refl _, fun i h4 h5 => by omega, Or.inr (by rw [Nat.add_sub_cancel]; exact h)⟩
theorem tf_lp_iff {f : Nat → Nat} {i : Nat} : tf_all (tf_lp f i) (f 365) 0 = true ↔ ∀ k, k < f 365 → f (184 + k) = f (144 + (if k < i then k else k + 1)) := by
  rw [tf_all_iff]
  constructor
  · intro h k hk
    have := h k (Nat.zero_le _) (by omega)
    unfold tf_lp at this
    simpa using this
  · intro h k _ hk
    unfold tf_lp
    simpa using h k (by omega)
theorem tf_lo_eq (f : Nat → Nat) : tf_lo f = if tf_fU f < f 364 ∧ tf_rs f (tf_fU f + 1) (tf_fU f) = true then tf_dw f (tf_fU f) (tf_fU f) else 41 := by
  have hle := tf_fU_le f
  by_cases c : tf_fU f < f 364 ∧ tf_rs f (tf_fU f + 1) (tf_fU f) = true
  · rw [if_pos c]
    obtain ⟨c1, c2⟩ := c
    obtain ⟨r1, r2⟩ := tf_rs_iff.mp c2
    obtain ⟨d1, d2, d3⟩ := tf_dw_ok f (tf_fU f) (tf_fU f)
    generalize tf_dw f (tf_fU f) (tf_fU f) = q at *
    have e : tf_fst (fun i => tf_all (tf_lp f i) (f 365) 0) (f 364) 0 = q := by
      refine tf_fst_eq _ (Nat.zero_le _) (by omega) (tf_lp_iff.mpr fun k hk => ?_) (fun i _ hi => ?_)
      · by_cases k1 : k < q
        · rw [if_pos k1]; exact (tf_fU_eq (by omega)).symm
        · rw [if_neg k1]
          by_cases k2 : k < tf_fU f
          · have a1 := d2 k (by omega) k2
            have a2 : f (144 + (k + 1)) = f (144 + tf_fU f) := by
              by_cases k3 : k + 1 = tf_fU f
              · rw [k3]
              · exact d2 (k + 1) (by omega) (by omega)
            rw [a2, ← a1]; exact (tf_fU_eq k2).symm
          · have a1 := r2 (k - tf_fU f) (by omega)
            rw [show tf_fU f + 1 + (k - tf_fU f) = k + 1 by omega, show tf_fU f + (k - tf_fU f) = k by omega] at a1
            exact a1.symm
      · cases hq : tf_all (tf_lp f i) (f 365) 0
        · rfl
        · exfalso
          have h := tf_lp_iff.mp hq (q - 1) (by omega)
          rw [if_neg (by omega), show q - 1 + 1 = q by omega] at h
          have h2 := tf_fU_eq (f := f) (i := q - 1) (by omega)
          have h3 : f (144 + q) = f (144 + tf_fU f) := by
            by_cases k3 : q = tf_fU f
            · rw [k3]
            · exact d2 q (Nat.le_refl _) (by omega)
          rcases d3 with d3 | d3
          · omega
          · exact d3 (by rw [h2, h, h3])
    unfold tf_lo
    rw [e, if_pos ⟨by omega, by omega⟩]
  · rw [if_neg c]
    unfold tf_lo
    apply if_neg
    rintro ⟨l1, l2⟩
    have h := tf_fst_at (fun i => tf_all (tf_lp f i) (f 365) 0) (f 364) 0 (by omega)
    generalize tf_fst (fun i => tf_all (tf_lp f i) (f 365) 0) (f 364) 0 = i at *
    have h2 := tf_lp_iff.mp h
    have h3 : i ≤ tf_fU f := tf_fU_ge (by omega) (by omega) (fun j hj => by have := h2 j (by omega); rw [if_pos hj] at this; exact this.symm)
    refine c ⟨by omega, tf_rs_iff.mpr ⟨by omega, fun k hk => ?_⟩⟩
    have h4 := h2 (tf_fU f + k) (by omega)
    rw [if_neg (by omega)] at h4
    rw [show tf_fU f + 1 + k = tf_fU f + k + 1 by omega]
    exact h4.symm
theorem tf_cp_iff {f : Nat → Nat} {i : Nat} : tf_all (tf_cp f i) (f 364) 0 = true ↔ ∀ k, k < f 364 → f (184 + (if k < i then k else k + 2)) = f (144 + k) := by
  rw [tf_all_iff]
  constructor
  · intro h k hk
    have := h k (Nat.zero_le _) (by omega)
    unfold tf_cp at this
    simpa using this
  · intro h k _ hk
    unfold tf_cp
    simpa using h k (by omega)
theorem tf_ch_iff {f : Nat → Nat} {i : Nat} : tf_ch f i = true ↔ f (184 + i) ≠ 26 ∧ f (184 + i) ≠ f (144 + i) ∧ f (184 + (i + 1)) = 26 := by
  unfold tf_ch
  rw [Nat.add_assoc]
  simp [and_assoc]
theorem tf_ca_eq (f : Nat → Nat) : tf_ca f = if tf_fU f < f 364 ∧ tf_fU f + 1 < f 365 ∧ f (184 + tf_fU f) ≠ 26 ∧ f (184 + (tf_fU f + 1)) = 26 ∧ tf_rs f (tf_fU f) (tf_fU f + 2) = true then tf_fU f else 41 := by
  have hle := tf_fU_le f
  by_cases c : tf_fU f < f 364 ∧ tf_fU f + 1 < f 365 ∧ f (184 + tf_fU f) ≠ 26 ∧ f (184 + (tf_fU f + 1)) = 26 ∧ tf_rs f (tf_fU f) (tf_fU f + 2) = true
  · rw [if_pos c]
    obtain ⟨c1, c2, c3, c4, c5⟩ := c
    obtain ⟨r1, r2⟩ := tf_rs_iff.mp c5
    have hn := tf_fU_ne c1 (by omega)
    have e : tf_fst (fun i => tf_ch f i && tf_all (tf_cp f i) (f 364) 0) (f 364) 0 = tf_fU f := by
      refine tf_fst_eq _ (Nat.zero_le _) (by omega) ?_ (fun i _ hi => ?_)
      · rw [Bool.and_eq_true]
        refine ⟨tf_ch_iff.mpr ⟨c3, Ne.symm hn, c4⟩, tf_cp_iff.mpr fun k hk => ?_⟩
        by_cases k1 : k < tf_fU f
        · rw [if_pos k1]; exact (tf_fU_eq k1).symm
        · rw [if_neg k1]
          have a1 := r2 (k - tf_fU f) (by omega)
          rw [show tf_fU f + (k - tf_fU f) = k by omega, show tf_fU f + 2 + (k - tf_fU f) = k + 2 by omega] at a1
          exact a1.symm
      · have h2 := tf_fU_eq hi
        have : tf_ch f i = false := by
          cases hq : tf_ch f i
          · rfl
          · exact absurd h2.symm (tf_ch_iff.mp hq).2.1
        rw [this]
        rfl
    unfold tf_ca
    rw [e, if_pos ⟨by omega, c1⟩]
  · rw [if_neg c]
    unfold tf_ca
    apply if_neg
    rintro ⟨l1, l2⟩
    have h := tf_fst_at (fun i => tf_ch f i && tf_all (tf_cp f i) (f 364) 0) (f 364) 0 (by omega)
    generalize tf_fst (fun i => tf_ch f i && tf_all (tf_cp f i) (f 364) 0) (f 364) 0 = i at *
    rw [Bool.and_eq_true] at h
    obtain ⟨h1, h2⟩ := h
    obtain ⟨g1, g2, g3⟩ := tf_ch_iff.mp h1
    have h4 := tf_cp_iff.mp h2
    have h5 : i ≤ tf_fU f := tf_fU_ge (by omega) (by omega) (fun j hj => by have := h4 j (by omega); rw [if_pos hj] at this; exact this.symm)
    have h6 : tf_fU f = i := by
      apply Nat.le_antisymm _ h5
      apply Nat.le_of_not_lt
      intro q
      exact g2 (tf_fU_eq q).symm
    refine c ⟨by omega, by omega, by rw [h6]; exact g1, by rw [h6]; exact g3, tf_rs_iff.mpr ⟨by omega, fun k hk => ?_⟩⟩
    have h7 := h4 (i + k) (by omega)
    rw [if_neg (by omega)] at h7
    rw [h6, show i + 2 + k = i + k + 2 by omega]
    exact h7.symm
