/-! SLIPS: places in MEANT; 41: none -/
def tf_df (f : Nat → Nat) (i : Nat) : Bool := !(f (144 + i) == f (184 + i))
/-- the first place where the texts differ, of n -/
def tf_dn (f : Nat → Nat) (n : Nat) : Nat := tf_fst (tf_df f) n 0
def tf_sl (f : Nat → Nat) : Nat := if f 365 = f 364 ∧ tf_dn f (f 364) < f 364 ∧ tf_fst (tf_df f) (f 364 - (tf_dn f (f 364) + 1)) (tf_dn f (f 364) + 1) = f 364 ∧ f (184 + tf_dn f (f 364)) ≠ 26 then tf_dn f (f 364) else 41
def tf_sw (f : Nat → Nat) : Nat := if f 365 = f 364 ∧ tf_dn f (f 364) + 1 < f 364 ∧ f (144 + tf_dn f (f 364)) = f (184 + tf_dn f (f 364) + 1) ∧ f (144 + tf_dn f (f 364) + 1) = f (184 + tf_dn f (f 364)) ∧ tf_fst (tf_df f) (f 364 - (tf_dn f (f 364) + 2)) (tf_dn f (f 364) + 2) = f 364 then tf_dn f (f 364) else 41
def tf_do (f : Nat → Nat) : Nat := if tf_sl f < 41 ∧ 1 ≤ tf_sl f ∧ tf_sl f + 1 < f 364 ∧ ((f (144 + tf_sl f) = f (144 + tf_sl f - 1) ∧ f (184 + tf_sl f) = f (144 + tf_sl f + 1) ∧ f (144 + tf_sl f - 1) ≠ f (144 + tf_sl f + 1)) ∨ (f (144 + tf_sl f) = f (144 + tf_sl f + 1) ∧ f (184 + tf_sl f) = f (144 + tf_sl f - 1) ∧ f (144 + tf_sl f - 1) ≠ f (144 + tf_sl f + 1))) then tf_sl f - 1 else 41
def tf_bk (f : Nat → Nat) (b t : Nat) : Nat := if tf_sl f < 41 ∧ tf_ke f b (f (144 + tf_sl f)) < 30 ∧ tf_ke f b (f (184 + tf_sl f)) < 30 ∧ (if t ≠ 0 then tf_di (tf_ke f b (f (144 + tf_sl f)) / 10) (tf_ke f b (f (184 + tf_sl f)) / 10) = 0 ∧ tf_ke f b (f (184 + tf_sl f)) % 10 = 9 - tf_ke f b (f (144 + tf_sl f)) % 10 else tf_di (tf_ke f b (f (144 + tf_sl f)) / 10) (tf_ke f b (f (184 + tf_sl f)) / 10) + tf_di (tf_ke f b (f (144 + tf_sl f)) % 10) (tf_ke f b (f (184 + tf_sl f)) % 10) = 1) then tf_sl f else 41
def tf_ea (f : Nat → Nat) : Nat := if tf_sl f < 41 ∧ ((tf_sl f + 1 < f 364 ∧ f (144 + tf_sl f + 1) = f (184 + tf_sl f)) ∨ (tf_sl f + 2 < f 364 ∧ f (144 + tf_sl f + 2) = f (184 + tf_sl f))) then tf_sl f else 41
/-- all from k on, of m, are so -/
def tf_all (P : Nat → Bool) : Nat → Nat → Bool
  | 0, _ => true
  | m + 1, k => P k && tf_all P m (k + 1)
def tf_lp (f : Nat → Nat) (i k : Nat) : Bool := f (184 + k) == f (144 + (if k < i then k else k + 1))
def tf_lo (f : Nat → Nat) : Nat := if f 365 + 1 = f 364 ∧ tf_fst (fun i => tf_all (tf_lp f i) (f 365) 0) (f 364) 0 < f 364 then tf_fst (fun i => tf_all (tf_lp f i) (f 365) 0) (f 364) 0 else 41
def tf_cp (f : Nat → Nat) (i k : Nat) : Bool := f (184 + (if k < i then k else k + 2)) == f (144 + k)
def tf_ch (f : Nat → Nat) (i : Nat) : Bool := !(f (184 + i) == 26) && !(f (184 + i) == f (144 + i)) && (f (184 + i + 1) == 26)
def tf_ca (f : Nat → Nat) : Nat := if f 365 = f 364 + 2 ∧ tf_fst (fun i => tf_ch f i && tf_all (tf_cp f i) (f 364) 0) (f 364) 0 < f 364 then tf_fst (fun i => tf_ch f i && tf_all (tf_cp f i) (f 364) 0) (f 364) 0 else 41
/-- WHERE of a KIND -/
def tf_wo (f : Nat → Nat) (b k : Nat) : Nat := if k = 0 then tf_sl f else if k = 1 then tf_sw f else if k = 2 then tf_do f else if k = 3 then tf_bk f b 1 else if k = 4 then tf_bk f b 0 else if k = 5 then tf_ea f else if k = 6 then tf_lo f else tf_ca f
theorem tf_sl_le {f : Nat → Nat} (h : tf_sl f < 41) : f 365 = f 364 ∧ tf_sl f < f 364 ∧ tf_sl f = tf_dn f (f 364) ∧ f (184 + tf_sl f) ≠ 26 := by
  unfold tf_sl at h ⊢
  split at h
  · next hc => rw [if_pos hc]; exact ⟨hc.1, hc.2.1, rfl, hc.2.2.2⟩
  · omega
theorem tf_all_0 {P : Nat → Bool} {k : Nat} : tf_all P 0 k = true := rfl
theorem tf_all_s {P : Nat → Bool} {m k : Nat} : tf_all P (m + 1) k = (P k && tf_all P m (k + 1)) := rfl
