/-! words for rows of numbers with a length (Series) -/
theorem tf_cl_nI {n : Nat} (h : n < 2147483648) : (nI n).toNatClampNeg = n := nI_clamp h
theorem tf_set_s {S : tf_Sg} {o k : Nat} {v : Int32} : tf_set S o k v o k = v := by simp [tf_set]
theorem tf_set_n {S : tf_Sg} {o k a : Nat} {v : Int32} (h : a ≠ o) : tf_set S o k v a = S a := tf_set_ne a h
theorem tf_set_k {S : tf_Sg} {o k j : Nat} {v : Int32} (h : j ≠ k) : tf_set S o k v o j = S o j := by simp [tf_set, h]
/-- the shape of a Series -/
def tf_se (G : tf_G) (o cap : Nat) : Prop := tf_tg G o = 3 ∧ tf_tg G (tf_rf G o 0) = 9 ∧ tf_rf G o 0 ≠ 0 ∧ tf_ln G (tf_rf G o 0) = cap ∧ cap ≤ 48
theorem tf_se_ne {G : tf_G} {o cap : Nat} (h : tf_se G o cap) : tf_rf G o 0 ≠ o := by
  intro e
  have h1 := h.1
  have h2 := h.2.1
  rw [e] at h2
  omega
/-- the first n places are written, the length too -/
def tf_wr (S : tf_Sg) (o a n : Nat) (f : Nat → Int32) : tf_Sg := fun x j => if x = a then (if j < n then f j else S a j) else if x = o ∧ j = 1 then nI n else S x j
theorem tf_wr_ne {S : tf_Sg} {o a n x : Nat} {f : Nat → Int32} (h1 : x ≠ o) (h2 : x ≠ a) : tf_wr S o a n f x = S x := by
  funext j
  simp [tf_wr, h1, h2]
theorem tf_wr_0 {S : tf_Sg} {o a : Nat} {f : Nat → Int32} : tf_wr S o a 0 f = tf_set S o 1 0 ∨ o = a := by
  by_cases h : o = a
  · exact Or.inr h
  · refine Or.inl ?_
    funext x j
    unfold tf_wr tf_set
    by_cases hx : x = a
    · subst hx
      rw [if_pos rfl, if_neg (by omega), if_neg (fun q => h q.1.symm)]
    · rw [if_neg hx, nI_0]
theorem tf_wr_o {S : tf_Sg} {o a n : Nat} {f : Nat → Int32} (h : a ≠ o) : tf_wr S o a n f o 1 = nI n := by
  unfold tf_wr
  rw [if_neg (fun q => h q.symm), if_pos ⟨rfl, rfl⟩]
theorem tf_wr_a {S : tf_Sg} {o a n j : Nat} {f : Nat → Int32} (h : j < n) : tf_wr S o a n f a j = f j := by
  unfold tf_wr
  rw [if_pos rfl, if_pos h]
theorem tf_wr_s {S : tf_Sg} {o a n : Nat} {f : Nat → Int32} (h : a ≠ o) : tf_set (tf_set (tf_wr S o a n f) a n (f n)) o 1 (nI (n + 1)) = tf_wr S o a (n + 1) f := by
  funext x j
  by_cases hx : x = a
  · subst hx
    rw [tf_set_n h]
    by_cases hj : j = n
    · subst hj
      rw [tf_set_s, tf_wr_a (by omega)]
    · rw [tf_set_k hj]
      unfold tf_wr
      rw [if_pos rfl, if_pos rfl]
      by_cases hl : j < n
      · rw [if_pos hl, if_pos (by omega)]
      · rw [if_neg hl, if_neg (by omega)]
  · by_cases ho : x = o
    · subst ho
      by_cases hj : j = 1
      · subst hj
        rw [tf_set_s, tf_wr_o h]
      · rw [tf_set_k hj, tf_set_n hx]
        unfold tf_wr
        rw [if_neg hx, if_neg hx, if_neg (fun q => hj q.2), if_neg (fun q => hj q.2)]
    · rw [tf_set_n ho, tf_set_n hx, tf_wr_ne ho hx, tf_wr_ne ho hx]
/-- what at(i) answers -/
def tf_atv (G : tf_G) (S : tf_Sg) (o : Nat) (i : Int32) : Int32 := if ¬ i < 0 ∧ ¬ S o 1 ≤ i then S (tf_rf G o 0) i.toNatClampNeg else (-9)
theorem tf_atv_in {G : tf_G} {S : tf_Sg} {o n j : Nat} (hn : S o 1 = nI n) (hl : n < 2147483648) (h : j < n) : tf_atv G S o (nI j) = S (tf_rf G o 0) j := by
  unfold tf_atv
  rw [if_pos ⟨nI_pos (by omega), by rw [hn]; exact nI_ge h hl⟩, tf_cl_nI (by omega)]
theorem tf_atv_out {G : tf_G} {S : tf_Sg} {o n : Nat} {i : Int32} (hn : S o 1 = nI n) (h : i < 0 ∨ nI n ≤ i) : tf_atv G S o i = -9 := by
  unfold tf_atv
  rw [if_neg]
  rintro ⟨a, b⟩
  rw [hn] at b
  rcases h with h | h
  · exact a h
  · exact b h
theorem tf_nlt {i : Int32} {n c : Nat} (h0 : ¬ i < 0) (h : ¬ nI n ≤ i) (hn : n ≤ c) (hc : c < 2147483648) : vp_in i c := by
  obtain ⟨j, hj, rfl⟩ := nI_of h0
  have : ¬ n ≤ j := fun q => h (nI_le q hj)
  exact vp_in_nI (by omega) hc
/-! natural forms -/
theorem tf_add {x y : Int32} {a b : Nat} (hx : x = nI a) (hy : y = nI b) : x + y = nI (a + b) := by rw [hx, hy, nI_add]
theorem tf_mul {x y : Int32} {a b : Nat} (hx : x = nI a) (hy : y = nI b) : x * y = nI (a * b) := by rw [hx, hy, pk_mul]
theorem tf_sub {x y : Int32} {a b : Nat} (hx : x = nI a) (hy : y = nI b) (h : b ≤ a) : x - y = nI (a - b) := by rw [hx, hy, pk_sub h]
theorem tf_div {x y : Int32} {a d : Nat} (hx : x = nI a) (hy : y = nI d) (ha : a < 2147483648) (h0 : 0 < d) (hd : d < 2147483648) : x / y = nI (a / d) := by rw [hx, hy]; exact pk_div ha h0 hd
theorem tf_rem {x y : Int32} {a d : Nat} (hx : x = nI a) (hy : y = nI d) (ha : a < 2147483648) (h0 : 0 < d) (hd : d < 2147483648) : x - x / y * y = nI (a % d) := by rw [hx, hy]; exact pk_rem ha h0 hd
theorem tf_cln {x : Int32} {n : Nat} (hx : x = nI n) (hn : n < 2147483648) : x.toNatClampNeg = n := by rw [hx]; exact nI_clamp hn
theorem tf_rd {S : tf_Sg} {a : Nat} {f : Nat → Nat} (hs : ∀ k, S a k = nI (f k)) {x : Int32} {n : Nat} (hx : x = nI n) (hn : n < 2147483648) : S a x.toNatClampNeg = nI (f n) := by rw [tf_cln hx hn, hs]
theorem tf_in {x : Int32} {n N M : Nat} (hx : x = nI n) (hM : M = N) (h : n < N) (hN : N < 2147483648) : vp_in x M := by rw [hx, hM]; exact vp_in_nI h hN
theorem tf_eqT {x y : Int32} {a b : Nat} (hx : x = nI a) (hy : y = nI b) (h : a = b) : x = y := by rw [hx, hy, h]
theorem tf_neF {x y : Int32} {a b : Nat} (hx : x = nI a) (hy : y = nI b) (h : a = b) : ¬ x ≠ y := fun q => q (tf_eqT hx hy h)
theorem tf_eqF {x y : Int32} {a b : Nat} (hx : x = nI a) (hy : y = nI b) (h : a ≠ b) (ha : a < 2147483648) (hb : b < 2147483648) : ¬ x = y := by rw [hx, hy]; exact fun q => h ((nI_eq ha hb).mp q)
theorem tf_ltT {x y : Int32} {a b : Nat} (hx : x = nI a) (hy : y = nI b) (h : a < b) (ha : a < 2147483648) (hb : b < 2147483648) : x < y := by rw [hx, hy]; exact nI_lt h hb
theorem tf_ltF {x y : Int32} {a b : Nat} (hx : x = nI a) (hy : y = nI b) (h : b ≤ a) (ha : a < 2147483648) (hb : b < 2147483648) : ¬ x < y := by rw [hx, hy]; exact nI_nlt h ha
theorem tf_leT {x y : Int32} {a b : Nat} (hx : x = nI a) (hy : y = nI b) (h : a ≤ b) (ha : a < 2147483648) (hb : b < 2147483648) : x ≤ y := by rw [hx, hy]; exact nI_le h hb
theorem tf_leF {x y : Int32} {a b : Nat} (hx : x = nI a) (hy : y = nI b) (h : b < a) (ha : a < 2147483648) (hb : b < 2147483648) : ¬ x ≤ y := by rw [hx, hy]; exact nI_ge h ha
/-- fewer locals are known -/
def tf_lss : List (Option Value) → List (Option Value) → Prop
  | [], [] => True
  | none :: a, _ :: b => tf_lss a b
  | some v :: a, w :: b => w = some v ∧ tf_lss a b
  | _, _ => False
theorem tf_lss_at : ∀ {a b : List (Option Value)}, tf_lss a b → a.length = b.length ∧ ∀ (i : Nat) (v : Value), a[i]? = some (some v) → b[i]? = some (some v)
  | [], [], _ => ⟨rfl, fun i v h => by simp at h⟩
  | [], _ :: _, h => h.elim
  | none :: a, [], h => h.elim
  | some _ :: a, [], h => h.elim
  | none :: a, w :: b, h => by
    obtain ⟨h1, h2⟩ := tf_lss_at (a := a) (b := b) h
    refine ⟨by simp [h1], fun i v hi => ?_⟩
    cases i with
    | zero => simp at hi
    | succ i => simpa using h2 i v (by simpa using hi)
  | some u :: a, w :: b, h => by
    obtain ⟨h1, h2⟩ := tf_lss_at (a := a) (b := b) h.2
    refine ⟨by simp [h1], fun i v hi => ?_⟩
    cases i with
    | zero =>
      have hw := h.1
      simp at hi
      subst hi
      simp [hw]
    | succ i => simpa using h2 i v (by simpa using hi)
theorem tf_fgt {x : tf_X} {kc ks : Nat} {G : tf_G} {S : tf_Sg} {pc : Nat} {ls : List (Option Value)} {st : List Value} (ls' : List (Option Value)) (h : tf_lss ls' ls) (kk : tf_K x kc ks G S pc ls' st) : tf_K x kc ks G S pc ls st := by
  intro ad H locs lsC hI hl
  obtain ⟨h1, h2⟩ := tf_lss_at h
  exact kk ad H locs lsC hI ⟨rfl, by rw [h1]; exact hl.2.1, hl.2.2.1, fun i v hi => hl.2.2.2 i v (h2 i v hi)⟩
