theorem cs_g {S X : tf_Sg} {A : tf_A} {f T : Nat → Nat} {n : Nat} (hA : tf_okA A) (hC : tf_cs S A) (h : ∀ a, (a < 5 ∨ (57 ≤ a ∧ a < 109) ∨ 124 ≤ a) → X a = S a) (hf : tf_st X 5 f) (ht : X 109 1 = nI n) (hT : ∀ j, X 110 j = nI (T j)) : tf_cs X (f, T, n, A.2.2.2) := by
  obtain ⟨h1, h2, h3, h4, h6, h7⟩ := hC
  exact ⟨by rw [h 1 (by omega)]; exact h1, hf, tf_kept (A := A) hA h3 (fun a _ q => h a (by omega)), ⟨ht, hT⟩, by rw [h 124 (by omega)]; exact h6, by rw [h 4 (by omega)]; exact h7⟩
theorem st_cf {S : tf_Sg} {s : Nat} {f f' : Nat → Nat} (hg : tf_gd f) (h : ∀ k, k < 368 → f' k = f k) (hS : tf_st S s f) : tf_st S s f' := by
  have g := hg.1
  exact ⟨tf_stB_c hS.1 (fun _ _ _ => rfl) (fun k hk => h k (by omega)), tf_stH_c hS.2.1 (fun _ _ _ => rfl) (fun k _ hk => h k (by omega)), tf_stS_c hS.2.2.1 rfl rfl (h _ (by omega)) (fun j hj => h _ (by omega)), tf_stS_c hS.2.2.2.1 rfl rfl (h _ (by omega)) (fun j hj => h _ (by omega)), tf_stV_c hS.2.2.2.2.1 hg (fun _ _ _ => rfl) (h _ (by omega)) (fun k _ hk => h k (by omega)), tf_stS_c hS.2.2.2.2.2 rfl rfl (h _ (by omega)) (fun j hj => h _ (by omega))⟩
/-- a text taken over -/
theorem st_meant {S : tf_Sg} {f T : Nat → Nat} {n : Nat} (hS : tf_st S 5 f) (hg : tf_gd f) (hn : n ≤ 40) : tf_st (tf_wr S 28 29 n (fun j => nI (tf_tv2 (T j)))) 5 (tf_u (tf_tw f T 144 n) 364 n) := by
  have g := hg.1
  have e : ∀ a, a ≠ 28 → a ≠ 29 → tf_wr S 28 29 n (fun j => nI (tf_tv2 (T j))) a = S a := fun a h1 h2 => tf_wr_ne h1 h2
  have u : ∀ k, (k < 144 ∨ 184 ≤ k) → k ≠ 364 → tf_u (tf_tw f T 144 n) 364 n k = f k := fun k h1 h2 => (if_neg h2).trans (if_neg (by omega))
  have c : tf_u (tf_tw f T 144 n) 364 n 364 = n := if_pos rfl
  refine ⟨tf_stB_c hS.1 (fun a h1 h2 => e a (by omega) (by omega)) (fun k hk => u k (by omega) (by omega)), tf_stH_c hS.2.1 (fun a h1 h2 => e a (by omega) (by omega)) (fun k h1 h2 => u k (by omega) (by omega)), ⟨by rw [c]; exact tf_wr_o (by decide), fun j hj => ?_⟩, tf_stS_c hS.2.2.2.1 (e _ (by omega) (by omega)) (e _ (by omega) (by omega)) (u _ (by omega) (by omega)) (fun j hj => u _ (by omega) (by omega)), tf_stV_c hS.2.2.2.2.1 hg (fun a h1 h2 => e a (by omega) (by omega)) (u _ (by omega) (by omega)) (fun k h1 h2 => u k (by omega) (by omega)), tf_stS_c hS.2.2.2.2.2 (e _ (by omega) (by omega)) (e _ (by omega) (by omega)) (u _ (by omega) (by omega)) (fun j hj => u _ (by omega) (by omega))⟩
  rw [c] at hj
  refine (tf_wr_a hj).trans ?_
  have : tf_u (tf_tw f T 144 n) 364 n (144 + j) = tf_tv2 (T j) := by
    refine (if_neg (by omega)).trans ((if_pos (by omega)).trans ?_)
    rw [show 144 + j - 144 = j by omega]
  rw [this]
theorem st_written {S : tf_Sg} {f T : Nat → Nat} {n : Nat} (hS : tf_st S 5 f) (hg : tf_gd f) (hn : n ≤ 40) : tf_st (tf_wr S 30 31 n (fun j => nI (tf_tv2 (T j)))) 5 (tf_u (tf_tw f T 184 n) 365 n) := by
  have g := hg.1
  have e : ∀ a, a ≠ 30 → a ≠ 31 → tf_wr S 30 31 n (fun j => nI (tf_tv2 (T j))) a = S a := fun a h1 h2 => tf_wr_ne h1 h2
  have u : ∀ k, (k < 184 ∨ 224 ≤ k) → k ≠ 365 → tf_u (tf_tw f T 184 n) 365 n k = f k := fun k h1 h2 => (if_neg h2).trans (if_neg (by omega))
  have c : tf_u (tf_tw f T 184 n) 365 n 365 = n := if_pos rfl
  refine ⟨tf_stB_c hS.1 (fun a h1 h2 => e a (by omega) (by omega)) (fun k hk => u k (by omega) (by omega)), tf_stH_c hS.2.1 (fun a h1 h2 => e a (by omega) (by omega)) (fun k h1 h2 => u k (by omega) (by omega)), tf_stS_c hS.2.2.1 (e _ (by omega) (by omega)) (e _ (by omega) (by omega)) (u _ (by omega) (by omega)) (fun j hj => u _ (by omega) (by omega)), ⟨by rw [c]; exact tf_wr_o (by decide), fun j hj => ?_⟩, tf_stV_c hS.2.2.2.2.1 hg (fun a h1 h2 => e a (by omega) (by omega)) (u _ (by omega) (by omega)) (fun k h1 h2 => u k (by omega) (by omega)), tf_stS_c hS.2.2.2.2.2 (e _ (by omega) (by omega)) (e _ (by omega) (by omega)) (u _ (by omega) (by omega)) (fun j hj => u _ (by omega) (by omega))⟩
  rw [c] at hj
  refine (tf_wr_a hj).trans ?_
  have : tf_u (tf_tw f T 184 n) 365 n (184 + j) = tf_tv2 (T j) := by
    refine (if_neg (by omega)).trans ((if_pos (by omega)).trans ?_)
    rw [show 184 + j - 184 = j by omega]
  rw [this]
def tf_wf2 (f T : Nat → Nat) (n : Nat) : Nat → Nat := tf_u (tf_tw (tf_u (tf_u f (224 + 10 * f 366) n) (224 + 10 * f 366 + 1) 0) T (224 + 10 * f 366 + 2) n) 366 (f 366 + 1)
def tf_wS2 (S : tf_Sg) (f T : Nat → Nat) (n : Nat) : tf_Sg := tf_set (tf_set (tf_wr S (34 + 2 * f 366) (35 + 2 * f 366) n (fun j => nI (tf_tv2 (T j)))) 54 (f 366) 0) 32 2 (nI (f 366 + 1))
theorem st_word {S : tf_Sg} {f T : Nat → Nat} {n : Nat} (hS : tf_st S 5 f) (hg : tf_gd f) (h10 : f 366 < 10) (hn : n ≤ 8) : tf_st (tf_wS2 S f T n) 5 (tf_wf2 f T n) := by
  have g := hg.1
  have e : ∀ a, a ≠ 32 → a ≠ 54 → a ≠ 34 + 2 * f 366 → a ≠ 35 + 2 * f 366 → tf_wS2 S f T n a = S a := fun a h1 h2 h3 h4 => by unfold tf_wS2; rw [tf_set_n h1, tf_set_n h2, tf_wr_ne h3 h4]
  have u : ∀ k, (k < 224 + 10 * f 366 ∨ 224 + 10 * f 366 + 2 + n ≤ k) → k ≠ 366 → tf_wf2 f T n k = f k := fun k h1 h2 => by unfold tf_wf2; exact (if_neg h2).trans ((if_neg (by omega)).trans ((if_neg (by omega)).trans (if_neg (by omega))))
  have c : tf_wf2 f T n 366 = f 366 + 1 := by unfold tf_wf2; exact if_pos rfl
  have c0 : tf_wf2 f T n (224 + 10 * f 366) = n := by unfold tf_wf2; exact (if_neg (by omega)).trans ((if_neg (by omega)).trans ((if_neg (by omega)).trans (if_pos rfl)))
  have c1 : tf_wf2 f T n (224 + 10 * f 366 + 1) = 0 := by unfold tf_wf2; exact (if_neg (by omega)).trans ((if_neg (by omega)).trans (if_pos rfl))
  have c2 : ∀ j, j < n → tf_wf2 f T n (224 + 10 * f 366 + 2 + j) = tf_tv2 (T j) := fun j hj => by
    unfold tf_wf2
    refine (if_neg (by omega)).trans ((if_pos (by omega)).trans ?_)
    rw [show 224 + 10 * f 366 + 2 + j - (224 + 10 * f 366 + 2) = j by omega]
  obtain ⟨h1, h2, h3⟩ := hS.2.2.2.2.1
  refine ⟨tf_stB_c hS.1 (fun a h1 h2 => e a (by omega) (by omega) (by omega) (by omega)) (fun k hk => u k (by omega) (by omega)), tf_stH_c hS.2.1 (fun a h1 h2 => e a (by omega) (by omega) (by omega) (by omega)) (fun k h1 h2 => u k (by omega) (by omega)), tf_stS_c hS.2.2.1 (e _ (by omega) (by omega) (by omega) (by omega)) (e _ (by omega) (by omega) (by omega) (by omega)) (u _ (by omega) (by omega)) (fun j hj => u _ (by omega) (by omega)), tf_stS_c hS.2.2.2.1 (e _ (by omega) (by omega) (by omega) (by omega)) (e _ (by omega) (by omega) (by omega) (by omega)) (u _ (by omega) (by omega)) (fun j hj => u _ (by omega) (by omega)), ⟨by rw [c]; exact tf_set_s, fun w hw => ?_, fun w hw => ?_⟩, tf_stS_c hS.2.2.2.2.2 (e _ (by omega) (by omega) (by omega) (by omega)) (e _ (by omega) (by omega) (by omega) (by omega)) (u _ (by omega) (by omega)) (fun j hj => u _ (by omega) (by omega))⟩
  · rw [c] at hw
    by_cases q : w = f 366
    · subst q
      rw [c0, c1]
      refine ⟨?_, fun j hj => ?_, ?_⟩
      · show tf_wS2 S f T n (5 + 29 + 2 * f 366) 1 = _
        unfold tf_wS2
        rw [show 5 + 29 + 2 * f 366 = 34 + 2 * f 366 by omega, tf_set_n (by omega), tf_set_n (by omega), tf_wr_o (by omega)]
      · rw [c2 j hj]
        unfold tf_wS2
        rw [show 5 + 30 + 2 * f 366 = 35 + 2 * f 366 by omega, tf_set_n (by omega), tf_set_n (by omega), tf_wr_a hj]
      · unfold tf_wS2
        rw [tf_set_n (by omega), tf_set_s]
        rfl
    · have g2 := hg.2.1 w (by omega)
      obtain ⟨q1, q2, q3⟩ := h2 w (by omega)
      rw [e (5 + 29 + 2 * w) (by omega) (by omega) (by omega) (by omega), e (5 + 30 + 2 * w) (by omega) (by omega) (by omega) (by omega), u (224 + 10 * w) (by omega) (by omega), u (224 + 10 * w + 1) (by omega) (by omega)]
      refine ⟨q1, fun j hj => by rw [u _ (by omega) (by omega)]; exact q2 j hj, ?_⟩
      have : tf_wS2 S f T n (5 + 49) w = S (5 + 49) w := by
        unfold tf_wS2
        rw [tf_set_n (by omega), tf_set_k q, tf_wr_ne (by omega) (by omega)]
      rw [this]
      exact q3
  · by_cases q : w = f 366
    · subst q
      refine ⟨n, hn, ?_⟩
      unfold tf_wS2
      rw [show 5 + 29 + 2 * f 366 = 34 + 2 * f 366 by omega, tf_set_n (by omega), tf_set_n (by omega), tf_wr_o (by omega)]
    · rw [e (5 + 29 + 2 * w) (by omega) (by omega) (by omega) (by omega)]
      exact h3 w hw
theorem tf_set_c {S : tf_Sg} {o k o' k' : Nat} {v v' : Int32} (h : o ≠ o') : tf_set (tf_set S o k v) o' k' v' = tf_set (tf_set S o' k' v') o k v := by
  funext x j
  show (if x = o' ∧ j = k' then v' else if x = o ∧ j = k then v else S x j) = (if x = o ∧ j = k then v else if x = o' ∧ j = k' then v' else S x j)
  by_cases a : x = o' ∧ j = k'
  · rw [if_pos a, if_neg (show ¬ (x = o ∧ j = k) from fun q => h (q.1.symm.trans a.1)), if_pos a]
  · rw [if_neg a, if_neg a]
theorem tf_bs_has (T : Nat → Nat) : ∀ k j, j < k → j % 11 ≠ 10 → tf_lt (T j) = true → (tf_bs T k).testBit (T j - 97) = true
  | 0, j, h, _, _ => absurd h (Nat.not_lt_zero j)
  | k + 1, j, h, h1, h2 => by
    rw [tf_bs_s]
    by_cases e : j = k
    · subst e
      rw [if_pos ⟨h1, h2⟩, Nat.testBit_or, Nat.testBit_two_pow_self, Bool.or_true]
    · have := tf_bs_has T k j (by omega) h1 h2
      split
      · rw [Nat.testBit_or, this, Bool.true_or]
      · exact this
theorem tf_ptb_d {T : Nat → Nat} {n : Nat} (h : ¬ tf_bf T n < 49) : ∀ i j, i < j → j < 30 → tf_ptb T j ≠ 0 → tf_ptb T i ≠ tf_ptb T j := by
  intro i j hij hj h0 e
  obtain ⟨h1, h2⟩ := tf_bf_no h
  have pj : tf_ptb T j = tf_bv (T (j + j / 10)) := rfl
  have pi : tf_ptb T i = tf_bv (T (i + i / 10)) := rfl
  have vj := tf_bb_v (h2 (j + j / 10) (by omega)) (by omega)
  have vi := tf_bb_v (h2 (i + i / 10) (by omega)) (by omega)
  rcases vj with vj | ⟨a1, a2, a3⟩
  · exact h0 (by rw [pj]; unfold tf_bv; rw [if_pos vj])
  · have bj : tf_bv (T (j + j / 10)) = T (j + j / 10) - 97 + 1 := by unfold tf_bv; rw [if_neg (by omega)]
    rcases vi with vi | ⟨b1, b2, b3⟩
    · have bi : tf_bv (T (i + i / 10)) = 0 := by unfold tf_bv; rw [if_pos vi]
      omega
    · have bi : tf_bv (T (i + i / 10)) = T (i + i / 10) - 97 + 1 := by unfold tf_bv; rw [if_neg (by omega)]
      have l := tf_bs_has T (j + j / 10) (i + i / 10) (by omega) (by omega) (by unfold tf_lt; simp; omega)
      rw [show T (i + i / 10) - 97 = T (j + j / 10) - 97 by omega, a3] at l
      cases l
/-- CLIMB in the class's heap -/
def cM (h b : Nat) : Nat → (Nat → Nat) → tf_Sg → tf_Sg
  | 0, _, X => X
  | m + 1, F, X => if tf_be F h b < 3000 then cM h b m (tf_ex F b (tf_be F h b / 100) (tf_be F h b % 100)) (tf_bp (tf_lx X F b) (8 + 3 * b) (9 + 3 * b) (tf_pe (fun k => F (30 * b + k)) (tf_be F h b / 100) (tf_be F h b % 100))) else tf_lx X F b
theorem cM_s {h b m : Nat} {F : Nat → Nat} {X : tf_Sg} : cM h b (m + 1) F X = if tf_be F h b < 3000 then cM h b m (tf_ex F b (tf_be F h b / 100) (tf_be F h b % 100)) (tf_bp (tf_lx X F b) (8 + 3 * b) (9 + 3 * b) (tf_pe (fun k => F (30 * b + k)) (tf_be F h b / 100) (tf_be F h b % 100))) else tf_lx X F b := rfl
theorem cM_ok {h b : Nat} (hb : b < 4) : ∀ m k F X, tf_st X 5 F → tf_gd F → tf_st (cM h b m F X) 5 (tf_cm h b m k F).2 ∧ tf_nx X (cM h b m F X)
  | 0, _, _, _, h1, _ => ⟨h1, fun _ _ => rfl⟩
  | m + 1, k, F, X, h1, hg => by
    rw [cM_s, tf_cm_s]
    by_cases c : tf_be F h b < 3000
    · rw [if_pos c, if_pos c]
      have bo := (tf_be_ok F h b).resolve_left (by omega)
      generalize tf_be F h b = q at *
      have s1 := nw_st h1 hg (tf_sx_lx (f := F) (b := b))
      have s2 := st_swap s1 hg hb (x := q / 100) (y := q % 100) (by omega) (by omega)
      obtain ⟨i1, i2⟩ := cM_ok hb (h := h) m (k + 1) _ _ s2 (tf_ex_gd hg hb (by omega) (by omega))
      exact ⟨i1, nx_tr (nx_tr (nx_sx tf_sx_lx) (nx_bp hb)) i2⟩
    · rw [if_neg c, if_neg c]
      exact ⟨nw_st h1 hg tf_sx_lx, nx_sx tf_sx_lx⟩

