/-! the calls with loops of their own -/
def tf_my (f : Nat → Nat) (b : Nat) : Nat → Nat → Int32 → Int32
  | 0, _, q => q
  | m + 1, k, q => tf_my f b m (k + 1) (if tf_wo f b k < 41 then q ||| ((1 : Int32) <<< (nI k &&& 31)) else q)
theorem tf_my_s {f : Nat → Nat} {b m k : Nat} {q : Int32} : tf_my f b (m + 1) k q = tf_my f b m (k + 1) (if tf_wo f b k < 41 then q ||| ((1 : Int32) <<< (nI k &&& 31)) else q) := rfl
def s_may (A : tf_A) (b : Int32) : tf_Q := if ¬ b < 0 ∧ ¬ 4 ≤ b then (tf_my A.1 b.toNatClampNeg 8 0 0, A) else (-1, tA_ref A 1)
/-- CLIMB -/
def tf_cm (h b : Nat) : Nat → Nat → (Nat → Nat) → Nat × (Nat → Nat)
  | 0, k, f => (k, f)
  | m + 1, k, f => if tf_be f h b < 3000 then tf_cm h b m (k + 1) (tf_ex f b (tf_be f h b / 100) (tf_be f h b % 100)) else (k, f)
theorem tf_cm_s {h b m k : Nat} {f : Nat → Nat} : tf_cm h b (m + 1) k f = if tf_be f h b < 3000 then tf_cm h b m (k + 1) (tf_ex f b (tf_be f h b / 100) (tf_be f h b % 100)) else (k, f) := rfl
def s_climb (A : tf_A) (h b n : Int32) : tf_Q := if (¬ h < 0 ∧ ¬ 4 ≤ h) ∧ (¬ b < 0 ∧ ¬ 4 ≤ b) then (if ¬ 1 ≤ n then (-4, tA_ref A 4) else if ¬ n ≤ 5 then (-6, tA_ref A 6) else (nI (tf_cm h.toNatClampNeg b.toNatClampNeg n.toNatClampNeg 0 A.1).1, tA_f A (tf_cm h.toNatClampNeg b.toNatClampNeg n.toNatClampNeg 0 A.1).2)) else (-1, tA_ref A 1)
def tf_bq (q : Nat) : Prop := q = 3000 ∨ (q / 100 < q % 100 ∧ q % 100 < 30)
theorem tf_b2_ok (f : Nat → Nat) (h b x : Nat) : ∀ m y q, y + m ≤ 30 → x < y → tf_bq q.1 → tf_bq (tf_b2 f h b x m y q).1
  | 0, _, _, _, _, hq => hq
  | m + 1, y, q, hy, hxy, hq => by
    rw [tf_b2_s]
    refine tf_b2_ok f h b x m (y + 1) _ (by omega) (by omega) ?_
    split
    · exact hq
    · split
      · exact hq
      · refine Or.inr ?_
        show (100 * x + y) / 100 < (100 * x + y) % 100 ∧ (100 * x + y) % 100 < 30
        omega
theorem tf_b1_ok (f : Nat → Nat) (h b : Nat) : ∀ m x q, x + m ≤ 30 → tf_bq q.1 → tf_bq (tf_b1 f h b m x q).1
  | 0, _, _, _, hq => hq
  | m + 1, x, q, hx, hq => by
    rw [tf_b1_s]
    exact tf_b1_ok f h b m (x + 1) _ (by omega) (tf_b2_ok f h b x _ _ _ (by omega) (by omega) hq)
theorem tf_be_ok (f : Nat → Nat) (h b : Nat) : tf_bq (tf_be f h b) := tf_b1_ok f h b 30 0 _ (by omega) (Or.inl rfl)
/-- A SUMMER: what is done by the end of the day -/
def tf_su (st ep ga : Nat) : Nat → Nat → Nat → Nat
  | 0, d, _ => d
  | m + 1, d, t => if 100 * (d + 1) ≤ t + (if 100 + ga < st + d * ep then 100 + ga else st + d * ep) then d else tf_su st ep ga m (d + 1) (t + (if 100 + ga < st + d * ep then 100 + ga else st + d * ep))
theorem tf_su_s {st ep ga m d t : Nat} : tf_su st ep ga (m + 1) d t = if 100 * (d + 1) ≤ t + (if 100 + ga < st + d * ep then 100 + ga else st + d * ep) then d else tf_su st ep ga m (d + 1) (t + (if 100 + ga < st + d * ep then 100 + ga else st + d * ep)) := rfl
def s_summer (A : tf_A) (st ep ga : Int32) : tf_Q := if st < 0 ∨ ep < 1 ∨ ga < 1 then (-4, tA_ref A 4) else if 99 < st ∨ 50 < ep ∨ 50 < ga then (-6, tA_ref A 6) else (tf_on 999 (tf_su st.toNatClampNeg ep.toNatClampNeg ga.toNatClampNeg 999 0 0), A)
/-- NEAREST -/
def tf_nb (f : Nat → Nat) (b : Nat) : Nat → Nat → Nat → Nat
  | 0, _, q => q
  | m + 1, h, q => tf_nb f b m (h + 1) (if tf_fa f h b < tf_fa f q b then h else q)
def tf_nu (f : Nat → Nat) (b q : Nat) : Nat → Nat → Bool
  | 0, _ => true
  | m + 1, h => if h ≠ q ∧ tf_fa f h b = tf_fa f q b then false else tf_nu f b q m (h + 1)
theorem tf_nb_s {f : Nat → Nat} {b m h q : Nat} : tf_nb f b (m + 1) h q = tf_nb f b m (h + 1) (if tf_fa f h b < tf_fa f q b then h else q) := rfl
theorem tf_nu_s {f : Nat → Nat} {b q m h : Nat} : tf_nu f b q (m + 1) h = if h ≠ q ∧ tf_fa f h b = tf_fa f q b then false else tf_nu f b q m (h + 1) := rfl
def s_nearest (A : tf_A) (b : Int32) : tf_Q := if ¬ b < 0 ∧ ¬ 4 ≤ b then (if A.1 367 = A.1 364 then (if tf_nu A.1 b.toNatClampNeg (tf_nb A.1 b.toNatClampNeg 3 1 0) 4 0 = true then (nI (tf_nb A.1 b.toNatClampNeg 3 1 0), A) else (-9, A)) else (-9, A)) else (-1, tA_ref A 1)
/-- SPAN -/
def tf_sc (f : Nat → Nat) (b l i : Nat) : Bool := decide (tf_ke f b (f (144 + i)) < 30) && decide (tf_ke f b (f (144 + i - 1)) < 30) && decide (tf_la (tf_ke f b (f (144 + i - 1))) (tf_ke f b (f (144 + i))) 0 = l) && !(decide (l = 1) && !decide (tf_ke f b (f (144 + i - 1)) / 10 = tf_ke f b (f (144 + i)) / 10))
def tf_sp (f : Nat → Nat) (b l g : Nat) : Nat → Nat → Nat → Nat
  | 0, _, q => q
  | m + 1, i, q => if i < f 367 ∧ i < f 364 then tf_sp f b l g m (i + 1) (if tf_sc f b l i = true then (if 10000 ≤ q ∨ (if g ≠ 0 then q < f (324 + i) else f (324 + i) < q) then f (324 + i) else q) else q) else q
theorem tf_sp_s {f : Nat → Nat} {b l g m i q : Nat} : tf_sp f b l g (m + 1) i q = if i < f 367 ∧ i < f 364 then tf_sp f b l g m (i + 1) (if tf_sc f b l i = true then (if 10000 ≤ q ∨ (if g ≠ 0 then q < f (324 + i) else f (324 + i) < q) then f (324 + i) else q) else q) else q := rfl
def s_span (A : tf_A) (b l : Int32) (g : Nat) : tf_Q := if ¬ b < 0 ∧ ¬ 4 ≤ b then (if ¬ l < 0 ∧ ¬ 3 ≤ l then (tf_on 10000 (tf_sp A.1 b.toNatClampNeg l.toNatClampNeg g 40 1 10000), A) else (-2, tA_ref A 2)) else (-1, tA_ref A 1)
/-- ACHE -/
def tf_as (f : Nat → Nat) (b c : Nat) : Nat → Nat → Nat
  | 0, _ => 0
  | m + 1, i => if i < f 364 then (if tf_ke f b (f (144 + i)) < 30 ∧ tf_fi (tf_ke f b (f (144 + i))) 0 = c then tf_ah f b i else 0) + tf_as f b c m (i + 1) else 0
theorem tf_as_s {f : Nat → Nat} {b c m i : Nat} : tf_as f b c (m + 1) i = if i < f 364 then (if tf_ke f b (f (144 + i)) < 30 ∧ tf_fi (tf_ke f b (f (144 + i))) 0 = c then tf_ah f b i else 0) + tf_as f b c m (i + 1) else 0 := rfl
def s_ache (A : tf_A) (b c : Int32) : tf_Q := if (¬ b < 0 ∧ ¬ 4 ≤ b) ∧ (¬ c < 0 ∧ ¬ 8 ≤ c) then (nI (tf_as A.1 b.toNatClampNeg c.toNatClampNeg 41 0), A) else (-1, tA_ref A 1)
/-- PAUSES: ahead of one letter; of all -/
def tf_pi (a l r : Nat) : Nat → Nat → Nat → Nat × Nat
  | 0, s, n => (s, n)
  | k + 1, s, n => if l < s + a then tf_pi a l r k (s - r) (n + 1) else (s, n)
theorem tf_pi_s {a l r k s n : Nat} : tf_pi a l r (k + 1) s n = if l < s + a then tf_pi a l r k (s - r) (n + 1) else (s, n) := rfl
def tf_pz (f : Nat → Nat) (b l r : Nat) : Nat → Nat → Nat → Nat → Nat
  | 0, _, _, n => n
  | m + 1, i, s, n => if i < f 364 then (if l < tf_ah f b i then 100000 else if l < s + tf_ah f b i ∧ r = 0 then 100000 else tf_pz f b l r m (i + 1) ((tf_pi (tf_ah f b i) l r (s + 1) s n).1 + tf_ah f b i) (tf_pi (tf_ah f b i) l r (s + 1) s n).2) else n
theorem tf_pz_s {f : Nat → Nat} {b l r m i s n : Nat} : tf_pz f b l r (m + 1) i s n = if i < f 364 then (if l < tf_ah f b i then 100000 else if l < s + tf_ah f b i ∧ r = 0 then 100000 else tf_pz f b l r m (i + 1) ((tf_pi (tf_ah f b i) l r (s + 1) s n).1 + tf_ah f b i) (tf_pi (tf_ah f b i) l r (s + 1) s n).2) else n := rfl
def s_pauses (A : tf_A) (b l r : Int32) : tf_Q := if ¬ b < 0 ∧ ¬ 4 ≤ b then (if l < 1 ∨ r < 0 then (-4, tA_ref A 4) else if 999 < l ∨ 999 < r then (-6, tA_ref A 6) else (tf_on 100000 (tf_pz A.1 b.toNatClampNeg l.toNatClampNeg r.toNatClampNeg 41 0 0 0), A)) else (-1, tA_ref A 1)
theorem tf_ah_le (f : Nat → Nat) (b i : Nat) : tf_ah f b i ≤ 3 := by unfold tf_ah; split; omega; split <;> omega
/-- SOONEST -/
def tf_sn (f : Nat → Nat) (h b d : Nat) : Nat → Nat → Nat → Nat
  | 0, _, q => q
  | m + 1, p, q => tf_sn f h b d m (p + 1) (if tf_pc f h b p d < tf_pc f h b q d then p else q)
theorem tf_sn_s {f : Nat → Nat} {h b d m p q : Nat} : tf_sn f h b d (m + 1) p q = tf_sn f h b d m (p + 1) (if tf_pc f h b p d < tf_pc f h b q d then p else q) := rfl
def s_soonest (A : tf_A) (h b d : Int32) : tf_Q := if (¬ h < 0 ∧ ¬ 4 ≤ h) ∧ (¬ b < 0 ∧ ¬ 4 ≤ b) then (if ¬ 0 ≤ d then (-4, tA_ref A 4) else if ¬ d ≤ 9999 then (-6, tA_ref A 6) else (nI (tf_sn A.1 h.toNatClampNeg b.toNatClampNeg d.toNatClampNeg 8 2 1), A)) else (-1, tA_ref A 1)
theorem tf_pc_le {f : Nat → Nat} (hg : tf_gd f) {h b p d : Nat} (hh : h < 4) (hp : p ≤ 9) (hd : d ≤ 9999) : tf_pc f h b p d ≤ 480000 + 32 * 9999 := by
  have t1 := tf_tm_le hg (b := b) (t := 0) hh
  have g1 := hg.1.1
  have q1 := Nat.mul_le_mul g1 hp
  have q2 := Nat.mul_le_mul q1 hp
  have q3 := Nat.mul_le_mul (show f 364 * p * p / 100 ≤ 32 by omega) hd
  have q4 : tf_tm f h b 0 * 10 / (10 + p) ≤ 480000 := by
    refine Nat.le_trans (Nat.div_le_div_left (show 10 ≤ 10 + p by omega) (by decide)) ?_
    omega
  unfold tf_pc
  omega
/-- the rows copied by image and on -/
def tf_mx (f g : Nat → Nat) (n : Nat) : Nat → Nat := fun j => if j < n then f j else g j
theorem tf_mx_s {f g : Nat → Nat} {n : Nat} : tf_u (tf_mx f g n) n (f n) = tf_mx f g (n + 1) := by
  funext j
  unfold tf_u tf_mx
  by_cases h : j = n
  · subst h; rw [if_pos rfl, if_pos (by omega)]
  · rw [if_neg h]
    by_cases h2 : j < n
    · rw [if_pos h2, if_pos (by omega)]
    · rw [if_neg h2, if_neg (by omega)]
theorem tf_mx_0 {f g : Nat → Nat} : tf_mx f g 0 = g := by funext j; unfold tf_mx; rw [if_neg (by omega)]
def s_image (A : tf_A) : tf_Q := (nI (A.1 366), (A.1, A.2.1, A.2.2.1, A.2.2.2.1, tf_mx A.1 A.2.2.2.2.1 368, 1))
def s_on (A : tf_A) : tf_Q := if A.2.2.2.2.2 = 0 then (-3, tA_ref A 3) else (nI (A.2.2.2.2.1 366), tA_f A (tf_mx A.2.2.2.2.1 A.1 368))
theorem tf_fl2_le {f : Nat → Nat} (hg : tf_gd f) (hb : ∀ k, f k < 10000) {h b : Nat} (hh : h < 4) : ∀ m i, tf_fl2 f h b m i ≤ 12001 * m
  | 0, i => Nat.le_refl _
  | m + 1, i => by
    rw [tf_fl2_s]
    split
    · have h1 := tf_fl2_le hg hb (b := b) hh m (i + 1)
      have h2 := tf_di_le (show f (324 + i) < 12001 by have := hb (324 + i); omega) (show tf_gt f h b i 0 < 12001 by have := tf_gt_le hg (b := b) (i := i) (t := 0) hh; omega)
      omega
    · exact Nat.zero_le _
theorem tf_fa_le {f : Nat → Nat} (hg : tf_gd f) (hb : ∀ k, f k < 10000) {h b : Nat} (hh : h < 4) : tf_fa f h b ≤ 2000000 := by
  have := tf_fl2_le hg hb (b := b) hh 41 0
  unfold tf_fa
  omega
