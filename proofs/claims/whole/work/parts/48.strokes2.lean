theorem tf_sc_iff {f : Nat → Nat} {b l i : Nat} (hi : 1 ≤ i) : tf_sc f b l i = true ↔ tf_kk f b i < 30 ∧ tf_kk f b (i - 1) < 30 ∧ tf_la (tf_kk f b (i - 1)) (tf_kk f b i) 0 = l ∧ (l = 1 → tf_kk f b (i - 1) / 10 = tf_kk f b i / 10) := by
  unfold tf_sc
  rw [show 144 + i - 1 = 144 + (i - 1) by omega]
  show (decide (tf_kk f b i < 30) && decide (tf_kk f b (i - 1) < 30) && decide (tf_la (tf_kk f b (i - 1)) (tf_kk f b i) 0 = l) && !(decide (l = 1) && !decide (tf_kk f b (i - 1) / 10 = tf_kk f b i / 10))) = true ↔ _
  rw [Bool.and_eq_true, Bool.and_eq_true, Bool.and_eq_true, decide_eq_true_eq, decide_eq_true_eq, decide_eq_true_eq]
  by_cases a : l = 1
  · simp [a, and_assoc]
  · simp [a, and_assoc]
theorem tf_la3 (p q : Nat) : tf_la p q 0 = 3 ↔ p ≠ q ∧ tf_fi p 0 = tf_fi q 0 := by
  unfold tf_la
  by_cases a : p = q
  · rw [if_pos a]
    exact ⟨fun h => absurd h (by decide), fun h => absurd a h.1⟩
  · rw [if_neg a]
    by_cases c : tf_fi p 0 = tf_fi q 0
    · rw [if_pos c]
      exact ⟨fun _ => ⟨a, c⟩, fun _ => rfl⟩
    · rw [if_neg c]
      refine ⟨fun h => ?_, fun h => absurd h.2 c⟩
      split at h <;> omega
theorem tf_ah_eq (f : Nat → Nat) (b i : Nat) : tf_ah f b i = if tf_kk f b i = 30 then 0 else if tf_pr (tf_kk f b) i < 30 ∧ tf_la (tf_pr (tf_kk f b) i) (tf_kk f b i) 0 = 3 then 3 else 1 := by
  unfold tf_ah
  show (if tf_kk f b i = 30 then 0 else _) = _
  by_cases a : tf_kk f b i = 30
  · rw [if_pos a, if_pos a]
  · rw [if_neg a, if_neg a]
    by_cases e : i = 0
    · subst e
      rw [if_neg (fun h => h.1 rfl), if_neg (show ¬ (tf_pr (tf_kk f b) 0 < 30 ∧ tf_la (tf_pr (tf_kk f b) 0) (tf_kk f b 0) 0 = 3) from fun h => absurd h.1 (by unfold tf_pr; rw [if_pos rfl]; omega))]
    · rw [show 144 + i - 1 = 144 + (i - 1) by omega]
      have pe : tf_pr (tf_kk f b) i = tf_kk f b (i - 1) := by unfold tf_pr; rw [if_neg e]
      rw [pe]
      refine ite_congr (propext ⟨?_, ?_⟩) (fun _ => rfl) (fun _ => rfl)
      · rintro ⟨h1, h2, h3, h4⟩
        exact ⟨h2, (tf_la3 _ _).mpr ⟨h3, h4⟩⟩
      · rintro ⟨h1, h2⟩
        obtain ⟨h3, h4⟩ := (tf_la3 _ _).mp h2
        exact ⟨e, h1, h3, h4⟩
/-- PAUSES ahead of one letter, at once -/
theorem tf_pi_n {a l r : Nat} (hr : 1 ≤ r) (ha : a ≤ l) : ∀ k s n, s < k → tf_pi a l r k s n = if l < s + a then (s - ((s + a - l - 1) / r + 1) * r, n + ((s + a - l - 1) / r + 1)) else (s, n)
  | 0, s, n, h => absurd h (Nat.not_lt_zero s)
  | k + 1, s, n, h => by
    rw [tf_pi_s]
    by_cases c : l < s + a
    · rw [if_pos c, if_pos c, tf_pi_n hr ha k (s - r) (n + 1) (by omega)]
      by_cases d : l < s - r + a
      · rw [if_pos d]
        have e : (s + a - l - 1) / r = (s - r + a - l - 1) / r + 1 := by
          rw [show s + a - l - 1 = s - r + a - l - 1 + r by omega, Nat.add_div_right _ hr]
        rw [e]
        generalize (s - r + a - l - 1) / r = q
        have m : (q + 1 + 1) * r = (q + 1) * r + r := Nat.succ_mul (q + 1) r
        rw [m, show n + 1 + (q + 1) = n + (q + 1 + 1) by omega, show s - r - (q + 1) * r = s - ((q + 1) * r + r) by omega]
      · rw [if_neg d, Nat.div_eq_of_lt (show s + a - l - 1 < r by omega), Nat.zero_add, Nat.one_mul]
    · rw [if_neg c, if_neg c]
theorem tf_nps {x l : Nat} (h : x ≤ l) (hl : l < 1000000) : ¬ 0 < nI x - nI l := by
  by_cases q : x = l
  · subst q
    rw [pk_sub (Nat.le_refl _), Nat.sub_self]
    decide
  · have h1 := pk_sneg (a := x) (b := l) (by omega) (by omega)
    exact fun h2 => absurd (Int32.lt_trans h1 h2) (fun z => Int32.lt_irrefl z)

set_option maxHeartbeats 1000000 in
theorem t_far {N : Nat} {S : tf_Sg} {f : Nat → Nat} {b hd o : Nat} (hK : tf_sV (tf_GG N) S 121 40 (f 364) (fun j => tf_on 30 (tf_kk f b j))) (hg : tf_gd f) (hb : ∀ k, f k < 10000) (hR5 : tf_sV (tf_GG N) S 55 40 (f 367) (fun j => nI (f (324 + j)))) (hL : tf_hn (tf_GG N) o) (hl : ∀ j, j < 6 → S (tf_rf (tf_GG N) o 0) j = nI (tf_ll f hd j)) (h1 : tf_k1 (tf_GG N) S) (hd4 : hd < 4) : tf_Fn mX8_farFrom 6 0 0 (tf_GG N) S [.ref 120, .ref 55, .ref o] (tf_GG N) S (some (.int (nI (tf_fa f hd b)))) := by
  have f40 := hK.2.2.1
  refine tf_Fn_of (own := RX8) false ⟨by decide, rfl, by decide⟩ (Nat.le_of_ble_eq_true rfl) trivial (fun x hx hR => ?_)
  show tf_K x 0 0 (tf_GG N) S 0 [some (.ref 120), some (.ref 55), some (.ref o), none, none] []
  have hot := hL.1
  have fle := tf_fa_le hg hb (b := b) hd4
  refine tf_go hx ftX8_farFrom 4 [] 5 [some (.ref 120), some (.ref 55), some (.ref o), some (.int 0), some (.int 0)] [] S rfl ⟨by decide, by decide, rfl⟩ trivial ?_
  have loop : ∀ (m k : Nat) (y : Nat), k + m = 41 → (y + tf_fl2 f hd b m k = tf_fa f hd b) → (k ≤ 40) → tf_K x 0 0 (tf_GG N) S 5 [some (.ref 120), some (.ref 55), some (.ref o), some (.int (nI y)), some (.int (nI k))] [] := by
    intro m
    induction m with
    | zero =>
      intro k y hk he hk4
      exact absurd hk4 (by omega)
    | succ m ih =>
      intro k y hk he hk4
      rw [tf_fl2_s] at he
      refine tf_go hx ftX8_farFrom 3 [] 11 [some (.ref 120), some (.ref 55), some (.ref o), some (.int (nI y)), some (.int (nI k))] [.ref 121, .int (nI k)] S rfl ⟨by decide, by decide, rfl⟩ ⟨trivial, ⟨by first | assumption | rfl | decide | omega | exact Nat.succ_ne_zero _, by first | assumption | rfl | decide | omega | exact Nat.succ_ne_zero _⟩⟩ ?_
      refine tf_cV hx ftX8_farFrom (nx := 14) (As := []) (rest := [.int (nI k)]) (st2 := [.int (nI (f 364)), .int (nI k)]) (v_size hK) rfl lX8_27 (by first | assumption | rfl | decide) rfl ⟨rfl, by decide, by decide, by decide, rfl, rfl⟩ ?_
      by_cases e1 : k < f 364
      · refine tf_go hx ftX8_farFrom 1 [false] 17 [some (.ref 120), some (.ref 55), some (.ref o), some (.int (nI y)), some (.int (nI k))] [] S rfl ⟨by decide, by decide, rfl⟩ ⟨trivial, (tf_leF (a := (f 364)) (b := k) rfl rfl (by have := hb 364; omega) (by have := hb 364; omega) (by have := hb 364; omega))⟩ ?_
        refine tf_go hx ftX8_farFrom 2 [] 20 [some (.ref 120), some (.ref 55), some (.ref o), some (.int (nI y)), some (.int (nI k))] [.ref 55, .int (nI k)] S rfl ⟨by decide, by decide, rfl⟩ trivial ?_
        refine tf_cV hx ftX8_farFrom (nx := 23) (As := []) (rest := [.int (nI k)]) (st2 := [.int (nI (f 367)), .int (nI k)]) (v_size hR5) rfl lX8_27 (by first | assumption | rfl | decide) rfl ⟨rfl, by decide, by decide, by decide, rfl, rfl⟩ ?_
        by_cases e2 : k < f 367
        · rw [if_pos ⟨e2, e1⟩] at he
          refine tf_go hx ftX8_farFrom 1 [false] 26 [some (.ref 120), some (.ref 55), some (.ref o), some (.int (nI y)), some (.int (nI k))] [] S rfl ⟨by decide, by decide, rfl⟩ ⟨trivial, (tf_leF (a := (f 367)) (b := k) rfl rfl (by have := hb 367; omega) (by have := hb 367; omega) (by have := hb 367; omega))⟩ ?_
          refine tf_go hx ftX8_farFrom 3 [] 30 [some (.ref 120), some (.ref 55), some (.ref o), some (.int (nI y)), some (.int (nI k))] [.int (nI k), .ref 55, .int (nI y)] S rfl ⟨by decide, by decide, rfl⟩ trivial ?_
          refine tf_cV hx ftX8_farFrom (nx := 33) (As := [.int (nI k)]) (rest := [.int (nI y)]) (st2 := [.int (nI (f (324 + k))), .int (nI y)]) (v_at hR5 e2) rfl lX8_31 (by first | assumption | rfl | decide) rfl ⟨rfl, by decide, by decide, by decide, rfl, rfl⟩ ?_
          refine tf_go hx ftX8_farFrom 3 [] 37 [some (.ref 120), some (.ref 55), some (.ref o), some (.int (nI y)), some (.int (nI k))] [.ref o, .int (nI k), .ref 120, .int (nI (f (324 + k))), .int (nI y)] S rfl ⟨by decide, by decide, rfl⟩ trivial ?_
          refine tf_cV hx ftX8_farFrom (nx := 40) (As := [.int (nI k), .ref o]) (rest := [.int (nI (f (324 + k))), .int (nI y)]) (st2 := [.int (nI (tf_gt f hd b k 0)), .int (nI (f (324 + k))), .int (nI y)]) ((by have h := t_gapAt (K := tf_kk f b) (L := tf_ll f hd) (i := k) hK (fun i _ => tf_kk_le f b i) hL hl h1 e1; rw [tf_gL_gt] at h; exact h)) rfl lX8_58 (by first | assumption | rfl | decide) rfl ⟨rfl, by decide, by decide, by decide, rfl, rfl⟩ ?_
          have gle := tf_gt_le hg (b := b) (i := k) (t := 0) hd4
          have fb := hb (324 + k)
          refine tf_go hx ftX8_farFrom 2 [] 44 [some (.ref 120), some (.ref 55), some (.ref o), some (.int (nI y)), some (.int (nI k))] [.int (if 0 ≤ ((nI (f (324 + k))) - (nI (tf_gt f hd b k 0))) then ((nI (f (324 + k))) - (nI (tf_gt f hd b k 0))) else 0 - ((nI (f (324 + k))) - (nI (tf_gt f hd b k 0)))), .int (nI y)] S rfl ⟨by decide, by decide, rfl⟩ trivial ?_
          rw [tf_amx (show f (324 + k) < 1000000 by omega) (show tf_gt f hd b k 0 < 1000000 by omega)]
          refine tf_go hx ftX8_farFrom 2 [] 46 [some (.ref 120), some (.ref 55), some (.ref o), some (.int ((nI y) + (nI (tf_di (f (324 + k)) (tf_gt f hd b k 0))))), some (.int (nI k))] [] S rfl ⟨by decide, by decide, rfl⟩ trivial ?_
          rw [show ((nI y) + (nI (tf_di (f (324 + k)) (tf_gt f hd b k 0)))) = nI (y + (tf_di (f (324 + k)) (tf_gt f hd b k 0))) from (tf_add (a := y) (b := (tf_di (f (324 + k)) (tf_gt f hd b k 0))) rfl rfl)]
          refine tf_go hx ftX8_farFrom 2 [] 5 [some (.ref 120), some (.ref 55), some (.ref o), some (.int (nI (y + (tf_di (f (324 + k)) (tf_gt f hd b k 0))))), some (.int ((nI k) + 1))] [] S rfl ⟨by decide, by decide, rfl⟩ trivial ?_
          rw [show ((nI k) + 1) = nI (k + 1) from (tf_add (a := k) (b := 1) rfl (rfl : (1 : Int32) = nI 1))]
          exact ih (k + 1) (y + tf_di (f (324 + k)) (tf_gt f hd b k 0)) (by omega) (by omega) (by omega)
        · rw [if_neg (fun h => e2 h.1)] at he
          refine tf_go hx ftX8_farFrom 2 [true] 53 [some (.ref 120), some (.ref 55), some (.ref o), some (.int (nI y)), some (.int (nI k))] [.int (nI y)] S rfl ⟨by decide, by decide, rfl⟩ ⟨trivial, (tf_leT (a := (f 367)) (b := k) rfl rfl (by have := hb 367; omega) (by have := hb 367; omega) (by have := hb 367; omega))⟩ ?_
          exact tf_ret ftX8_farFrom hR rfl ⟨by decide, by decide⟩ rfl rfl (by rw [← he]; rfl)
      · rw [if_neg (fun h => e1 h.2)] at he
        refine tf_go hx ftX8_farFrom 2 [true] 53 [some (.ref 120), some (.ref 55), some (.ref o), some (.int (nI y)), some (.int (nI k))] [.int (nI y)] S rfl ⟨by decide, by decide, rfl⟩ ⟨trivial, (tf_leT (a := (f 364)) (b := k) rfl rfl (by have := hb 364; omega) (by have := hb 364; omega) (by have := hb 364; omega))⟩ ?_
        exact tf_ret ftX8_farFrom hR rfl ⟨by decide, by decide⟩ rfl rfl (by rw [← he]; rfl)
  exact loop 41 0 0 rfl (by unfold tf_fa; omega) (by omega)

set_option maxHeartbeats 1000000 in
theorem t_shows {N : Nat} {S : tf_Sg} {f : Nat → Nat} {b l i : Nat} (hK : tf_sV (tf_GG N) S 121 40 (f 364) (fun j => tf_on 30 (tf_kk f b j))) (hg : tf_gd f) (hb : ∀ k, f k < 10000) (h1 : tf_k1 (tf_GG N) S) (hi1 : 1 ≤ i) (hi : i < f 364) (hl3 : l < 3) : tf_Fn mX8_showsLaw 4 0 0 (tf_GG N) S [.ref 120, .int (nI i), .int (nI l)] (tf_GG N) S (some (.int (nI (if tf_sc f b l i = true then 1 else 0)))) := by
  have f40 := hK.2.2.1
  refine tf_Fn_of (own := RX8) false ⟨by decide, rfl, by decide⟩ (Nat.le_of_ble_eq_true rfl) (by show nI (if _ then 1 else 0) = 0 ∨ _; split; exact Or.inr rfl; exact Or.inl rfl) (fun x hx hR => ?_)
  show tf_K x 0 0 (tf_GG N) S 0 [some (.ref 120), some (.int (nI i)), some (.int (nI l)), none, none] []
  have kp := tf_kk_le f b (i - 1)
  have kc := tf_kk_le f b i
  have pe : tf_pr (tf_kk f b) i = tf_kk f b (i - 1) := by unfold tf_pr; rw [if_neg (by omega)]
  have sc := tf_sc_iff (f := f) (b := b) (l := l) hi1
  refine tf_go hx ftX8_showsLaw 5 [] 7 [some (.ref 120), some (.int (nI i)), some (.int (nI l)), none, none] [.int ((nI i) - 1), .ref 121] S rfl ⟨by decide, by decide, rfl⟩ ⟨trivial, ⟨by first | assumption | rfl | decide | omega | exact Nat.succ_ne_zero _, by first | assumption | rfl | decide | omega | exact Nat.succ_ne_zero _⟩⟩ ?_
  refine tf_cV hx ftX8_showsLaw (nx := 10) (As := [.int ((nI i) - 1)]) (rest := []) (st2 := [.int (tf_on 30 (tf_kk f b (i - 1)))]) ((by have h := v_prevK hK (show i ≤ f 364 by omega); rw [pe] at h; exact h)) rfl lX8_31 (by first | assumption | rfl | decide) rfl ⟨rfl, by decide, by decide, by decide, rfl, rfl⟩ ?_
  refine tf_go hx ftX8_showsLaw 1 [] 11 [some (.ref 120), some (.int (nI i)), some (.int (nI l)), some (.int (tf_on 30 (tf_kk f b (i - 1)))), none] [] S rfl ⟨by decide, by decide, rfl⟩ trivial ?_
  refine tf_go hx ftX8_showsLaw 3 [] 16 [some (.ref 120), some (.int (nI i)), some (.int (nI l)), some (.int (tf_on 30 (tf_kk f b (i - 1)))), none] [.int (nI i), .ref 121] S rfl ⟨by decide, by decide, rfl⟩ ⟨trivial, ⟨by first | assumption | rfl | decide | omega | exact Nat.succ_ne_zero _, by first | assumption | rfl | decide | omega | exact Nat.succ_ne_zero _⟩⟩ ?_
  refine tf_cV hx ftX8_showsLaw (nx := 19) (As := [.int (nI i)]) (rest := []) (st2 := [.int (tf_on 30 (tf_kk f b i))]) (v_at hK hi) rfl lX8_31 (by first | assumption | rfl | decide) rfl ⟨rfl, by decide, by decide, by decide, rfl, rfl⟩ ?_
  refine tf_go hx ftX8_showsLaw 1 [] 21 [some (.ref 120), some (.int (nI i)), some (.int (nI l)), some (.int (tf_on 30 (tf_kk f b (i - 1)))), some (.int (tf_on 30 (tf_kk f b i)))] [] S rfl ⟨by decide, by decide, rfl⟩ trivial ?_
  generalize tf_kk f b (i - 1) = p at *
  generalize tf_kk f b i = q at *
  by_cases e1 : p < 30
  · rw [tf_on_y e1]
    refine tf_go hx ftX8_showsLaw 1 [] 22 [some (.ref 120), some (.int (nI i)), some (.int (nI l)), some (.int (nI p)), some (.int (tf_on 30 q))] [.int (nI p)] S rfl ⟨by decide, by decide, rfl⟩ trivial ?_
    refine tf_cN hx ftX8_showsLaw (nx := 25) (As := [.int (nI p)]) (rest := []) (st2 := [.int (if ¬ (nI p) < 0 ∧ ¬ 30 ≤ (nI p) then 0 else 1)]) (c_noKey (nI p)) rfl lX8_43 rfl ⟨rfl, by decide, by decide, by decide, rfl, rfl⟩ ?_
    rw [if_pos (show ¬ nI p < 0 ∧ ¬ 30 ≤ nI p from ⟨tf_ltF (a := p) (b := 0) rfl rfl (by omega) (by omega) (by omega), tf_leF (a := 30) (b := p) rfl rfl (by omega) (by omega) (by omega)⟩)]
    refine tf_go hx ftX8_showsLaw 1 [false] 28 [some (.ref 120), some (.int (nI i)), some (.int (nI l)), some (.int (nI p)), some (.int (tf_on 30 q))] [] S rfl ⟨by decide, by decide, rfl⟩ ⟨trivial, (by decide)⟩ ?_
    by_cases e2 : q < 30
    · rw [tf_on_y e2]
      refine tf_go hx ftX8_showsLaw 1 [] 30 [some (.ref 120), some (.int (nI i)), some (.int (nI l)), some (.int (nI p)), some (.int (nI q))] [.int (nI q)] S rfl ⟨by decide, by decide, rfl⟩ trivial ?_
      refine tf_cN hx ftX8_showsLaw (nx := 33) (As := [.int (nI q)]) (rest := []) (st2 := [.int (if ¬ (nI q) < 0 ∧ ¬ 30 ≤ (nI q) then 0 else 1)]) (c_noKey (nI q)) rfl lX8_43 rfl ⟨rfl, by decide, by decide, by decide, rfl, rfl⟩ ?_
      rw [if_pos (show ¬ nI q < 0 ∧ ¬ 30 ≤ nI q from ⟨tf_ltF (a := q) (b := 0) rfl rfl (by omega) (by omega) (by omega), tf_leF (a := 30) (b := q) rfl rfl (by omega) (by omega) (by omega)⟩)]
      refine tf_go hx ftX8_showsLaw 1 [false] 36 [some (.ref 120), some (.int (nI i)), some (.int (nI l)), some (.int (nI p)), some (.int (nI q))] [] S rfl ⟨by decide, by decide, rfl⟩ ⟨trivial, (by decide)⟩ ?_
      refine tf_go hx ftX8_showsLaw 3 [] 40 [some (.ref 120), some (.int (nI i)), some (.int (nI l)), some (.int (nI p)), some (.int (nI q))] [.int 0, .int (nI q), .int (nI p)] S rfl ⟨by decide, by decide, rfl⟩ trivial ?_
      refine tf_cS hx ftX8_showsLaw (nx := 43) (As := [.int (nI p), .int (nI q), .int 0]) (rest := []) (st2 := [.int (nI (tf_la p q 0))]) (k_law p q 0 h1 e1 e2 (by decide)) rfl lX8_67 rfl ⟨rfl, by decide, by decide, by decide, rfl, rfl⟩ ?_
      have la := tf_la_le p q 0
      refine tf_go hx ftX8_showsLaw 1 [] 44 [some (.ref 120), some (.int (nI i)), some (.int (nI l)), some (.int (nI p)), some (.int (nI q))] [.int (nI l), .int (nI (tf_la p q 0))] S rfl ⟨by decide, by decide, rfl⟩ trivial ?_
      by_cases e3 : tf_la p q 0 = l
      · refine tf_go hx ftX8_showsLaw 1 [true] 49 [some (.ref 120), some (.int (nI i)), some (.int (nI l)), some (.int (nI p)), some (.int (nI q))] [] S rfl ⟨by decide, by decide, rfl⟩ ⟨trivial, (tf_eqT (a := (tf_la p q 0)) (b := l) rfl rfl (by omega))⟩ ?_
        refine tf_go hx ftX8_showsLaw 2 [] 51 [some (.ref 120), some (.int (nI i)), some (.int (nI l)), some (.int (nI p)), some (.int (nI q))] [.int 1, .int (nI l)] S rfl ⟨by decide, by decide, rfl⟩ trivial ?_
        by_cases e4 : l = 1
        · refine tf_go hx ftX8_showsLaw 1 [false] 54 [some (.ref 120), some (.int (nI i)), some (.int (nI l)), some (.int (nI p)), some (.int (nI q))] [] S rfl ⟨by decide, by decide, rfl⟩ ⟨trivial, (tf_neF (a := l) (b := 1) rfl (rfl : (1 : Int32) = nI 1) (by omega))⟩ ?_
          refine tf_go hx ftX8_showsLaw 2 [] 57 [some (.ref 120), some (.int (nI i)), some (.int (nI l)), some (.int (nI p)), some (.int (nI q))] [.int (nI q), .int (nI p)] S rfl ⟨by decide, by decide, rfl⟩ trivial ?_
          refine tf_cS hx ftX8_showsLaw (nx := 60) (As := [.int (nI p), .int (nI q)]) (rest := []) (st2 := [.int (nI (tf_di (p / 10) (q / 10)))]) (k_lines p q e1 e2) rfl lX8_72 rfl ⟨rfl, by decide, by decide, by decide, rfl, rfl⟩ ?_
          have dd := tf_di_le (show p / 10 < 10 by omega) (show q / 10 < 10 by omega)
          by_cases e5 : tf_di (p / 10) (q / 10) = 0
          · refine tf_go hx ftX8_showsLaw 3 [false] 68 [some (.ref 120), some (.int (nI i)), some (.int (nI l)), some (.int (nI p)), some (.int (nI q))] [.int 1] S rfl ⟨by decide, by decide, rfl⟩ ⟨trivial, (tf_neF (a := (tf_di (p / 10) (q / 10))) (b := 0) rfl (rfl : (0 : Int32) = nI 0) (by omega))⟩ ?_
            exact tf_ret ftX8_showsLaw hR rfl ⟨by decide, by decide⟩ rfl rfl (by rw [if_pos (sc.mpr ⟨e2, e1, e3, fun _ => by unfold tf_di at e5; omega⟩)]; rfl)
          · refine tf_go hx ftX8_showsLaw 2 [true] 68 [some (.ref 120), some (.int (nI i)), some (.int (nI l)), some (.int (nI p)), some (.int (nI q))] [.int 0] S rfl ⟨by decide, by decide, rfl⟩ ⟨trivial, (tf_eqF (a := (tf_di (p / 10) (q / 10))) (b := 0) rfl (rfl : (0 : Int32) = nI 0) (by omega) (by omega) (by omega))⟩ ?_
            exact tf_ret ftX8_showsLaw hR rfl ⟨by decide, by decide⟩ rfl rfl (by rw [if_neg (fun h => by have h2 := sc.mp h; exact e5 (by have := h2.2.2.2 e4; unfold tf_di; omega))]; rfl)
        · refine tf_go hx ftX8_showsLaw 3 [true] 68 [some (.ref 120), some (.int (nI i)), some (.int (nI l)), some (.int (nI p)), some (.int (nI q))] [.int 1] S rfl ⟨by decide, by decide, rfl⟩ ⟨trivial, (tf_eqF (a := l) (b := 1) rfl (rfl : (1 : Int32) = nI 1) (by omega) (by omega) (by omega))⟩ ?_
          exact tf_ret ftX8_showsLaw hR rfl ⟨by decide, by decide⟩ rfl rfl (by rw [if_pos (sc.mpr ⟨e2, e1, e3, fun h => absurd h e4⟩)]; rfl)
      · refine tf_go hx ftX8_showsLaw 2 [false] 48 [some (.ref 120), some (.int (nI i)), some (.int (nI l)), some (.int (nI p)), some (.int (nI q))] [.int 0] S rfl ⟨by decide, by decide, rfl⟩ ⟨trivial, (tf_eqF (a := (tf_la p q 0)) (b := l) rfl rfl (by omega) (by omega) (by omega))⟩ ?_
        exact tf_ret ftX8_showsLaw hR rfl ⟨by decide, by decide⟩ rfl rfl (by rw [if_neg (fun h => by have h2 := sc.mp h; exact e3 h2.2.2.1)]; rfl)
    · rw [tf_on_n e2]
      refine tf_go hx ftX8_showsLaw 1 [] 30 [some (.ref 120), some (.int (nI i)), some (.int (nI l)), some (.int (nI p)), some (.int (-9))] [.int (-9)] S rfl ⟨by decide, by decide, rfl⟩ trivial ?_
      refine tf_cN hx ftX8_showsLaw (nx := 33) (As := [.int (-9)]) (rest := []) (st2 := [.int (if ¬ (-9) < 0 ∧ ¬ 30 ≤ (-9) then 0 else 1)]) (c_noKey (-9)) rfl lX8_43 rfl ⟨rfl, by decide, by decide, by decide, rfl, rfl⟩ ?_
      rw [if_neg (show ¬ (¬ (-9 : Int32) < 0 ∧ ¬ 30 ≤ (-9 : Int32)) by decide)]
      refine tf_go hx ftX8_showsLaw 2 [true] 48 [some (.ref 120), some (.int (nI i)), some (.int (nI l)), some (.int (nI p)), some (.int (-9))] [.int 0] S rfl ⟨by decide, by decide, rfl⟩ ⟨trivial, (by decide)⟩ ?_
      exact tf_ret ftX8_showsLaw hR rfl ⟨by decide, by decide⟩ rfl rfl (by rw [if_neg (fun h => by have h2 := sc.mp h; omega)]; rfl)
  · rw [tf_on_n e1]
    refine tf_go hx ftX8_showsLaw 1 [] 22 [some (.ref 120), some (.int (nI i)), some (.int (nI l)), some (.int (-9)), some (.int (tf_on 30 q))] [.int (-9)] S rfl ⟨by decide, by decide, rfl⟩ trivial ?_
    refine tf_cN hx ftX8_showsLaw (nx := 25) (As := [.int (-9)]) (rest := []) (st2 := [.int (if ¬ (-9) < 0 ∧ ¬ 30 ≤ (-9) then 0 else 1)]) (c_noKey (-9)) rfl lX8_43 rfl ⟨rfl, by decide, by decide, by decide, rfl, rfl⟩ ?_
    rw [if_neg (show ¬ (¬ (-9 : Int32) < 0 ∧ ¬ 30 ≤ (-9 : Int32)) by decide)]
    refine tf_go hx ftX8_showsLaw 2 [true] 48 [some (.ref 120), some (.int (nI i)), some (.int (nI l)), some (.int (-9)), some (.int (tf_on 30 q))] [.int 0] S rfl ⟨by decide, by decide, rfl⟩ ⟨trivial, (by decide)⟩ ?_
    exact tf_ret ftX8_showsLaw hR rfl ⟨by decide, by decide⟩ rfl rfl (by rw [if_neg (fun h => by have h2 := sc.mp h; omega)]; rfl)

set_option maxHeartbeats 1000000 in
theorem t_outer {N : Nat} {S : tf_Sg} {f : Nat → Nat} {b l g : Nat} (hK : tf_sV (tf_GG N) S 121 40 (f 364) (fun j => tf_on 30 (tf_kk f b j))) (hg : tf_gd f) (hb : ∀ k, f k < 10000) (hR5 : tf_sV (tf_GG N) S 55 40 (f 367) (fun j => nI (f (324 + j)))) (h1 : tf_k1 (tf_GG N) S) (hl3 : l < 3) (hg2 : g < 2) : tf_Fn mX8_outermost 5 0 0 (tf_GG N) S [.ref 120, .ref 55, .int (nI l), .int (nI g)] (tf_GG N) S (some (.int (tf_on 10000 (tf_sp f b l g 40 1 10000)))) := by
  have f40 := hK.2.2.1
  refine tf_Fn_of (own := RX8) false ⟨by decide, rfl, by decide⟩ (Nat.le_of_ble_eq_true rfl) trivial (fun x hx hR => ?_)
  show tf_K x 0 0 (tf_GG N) S 0 [some (.ref 120), some (.ref 55), some (.int (nI l)), some (.int (nI g)), none, none, none] []
  refine tf_go hx ftX8_outermost 4 [] 7 [some (.ref 120), some (.ref 55), some (.int (nI l)), some (.int (nI g)), some (.int (-9)), some (.int 1), none] [] S rfl ⟨by decide, by decide, rfl⟩ trivial ?_
  refine tf_fgt [some (.ref 120), some (.ref 55), some (.int (nI l)), some (.int (nI g)), some (.int (-9)), some (.int 1), none] (by simp [tf_lss]) ?_
  have loop : ∀ (m k : Nat) (q : Nat), k + m = 41 → (tf_sp f b l g m k q = tf_sp f b l g 40 1 10000) → (k ≤ 40) → (1 ≤ k) → (q ≤ 10000) → tf_K x 0 0 (tf_GG N) S 7 [some (.ref 120), some (.ref 55), some (.int (nI l)), some (.int (nI g)), some (.int (tf_on 10000 q)), some (.int (nI k)), none] [] := by
    intro m
    induction m with
    | zero =>
      intro k q hk he hk4 hk1 hq
      exact absurd hk4 (by omega)
    | succ m ih =>
      intro k q hk he hk4 hk1 hq
      rw [tf_sp_s] at he
      refine tf_go hx ftX8_outermost 3 [] 13 [some (.ref 120), some (.ref 55), some (.int (nI l)), some (.int (nI g)), some (.int (tf_on 10000 q)), some (.int (nI k)), none] [.ref 121, .int (nI k)] S rfl ⟨by decide, by decide, rfl⟩ ⟨trivial, ⟨by first | assumption | rfl | decide | omega | exact Nat.succ_ne_zero _, by first | assumption | rfl | decide | omega | exact Nat.succ_ne_zero _⟩⟩ ?_
      refine tf_cV hx ftX8_outermost (nx := 16) (As := []) (rest := [.int (nI k)]) (st2 := [.int (nI (f 364)), .int (nI k)]) (v_size hK) rfl lX8_27 (by first | assumption | rfl | decide) rfl ⟨rfl, by decide, by decide, by decide, rfl, rfl⟩ ?_
      by_cases e1 : k < f 364
      · refine tf_go hx ftX8_outermost 1 [false] 19 [some (.ref 120), some (.ref 55), some (.int (nI l)), some (.int (nI g)), some (.int (tf_on 10000 q)), some (.int (nI k)), none] [] S rfl ⟨by decide, by decide, rfl⟩ ⟨trivial, (tf_leF (a := (f 364)) (b := k) rfl rfl (by have := hb 364; omega) (by have := hb 364; omega) (by have := hb 364; omega))⟩ ?_
        refine tf_go hx ftX8_outermost 2 [] 22 [some (.ref 120), some (.ref 55), some (.int (nI l)), some (.int (nI g)), some (.int (tf_on 10000 q)), some (.int (nI k)), none] [.ref 55, .int (nI k)] S rfl ⟨by decide, by decide, rfl⟩ trivial ?_
        refine tf_cV hx ftX8_outermost (nx := 25) (As := []) (rest := [.int (nI k)]) (st2 := [.int (nI (f 367)), .int (nI k)]) (v_size hR5) rfl lX8_27 (by first | assumption | rfl | decide) rfl ⟨rfl, by decide, by decide, by decide, rfl, rfl⟩ ?_
        by_cases e2 : k < f 367
        · rw [if_pos ⟨e2, e1⟩] at he
          refine tf_go hx ftX8_outermost 1 [false] 28 [some (.ref 120), some (.ref 55), some (.int (nI l)), some (.int (nI g)), some (.int (tf_on 10000 q)), some (.int (nI k)), none] [] S rfl ⟨by decide, by decide, rfl⟩ ⟨trivial, (tf_leF (a := (f 367)) (b := k) rfl rfl (by have := hb 367; omega) (by have := hb 367; omega) (by have := hb 367; omega))⟩ ?_
          refine tf_go hx ftX8_outermost 3 [] 32 [some (.ref 120), some (.ref 55), some (.int (nI l)), some (.int (nI g)), some (.int (tf_on 10000 q)), some (.int (nI k)), none] [.int (nI l), .int (nI k), .ref 120] S rfl ⟨by decide, by decide, rfl⟩ trivial ?_
          refine tf_cV hx ftX8_outermost (nx := 35) (As := [.int (nI k), .int (nI l)]) (rest := []) (st2 := [.int (nI (if tf_sc f b l k = true then 1 else 0))]) (t_shows (l := l) (i := k) hK hg hb h1 hk1 e1 hl3) rfl lX8_76 (by first | assumption | rfl | decide) rfl ⟨rfl, by decide, by decide, by decide, rfl, rfl⟩ ?_
          by_cases e3 : tf_sc f b l k = true
          · rw [if_pos e3] at he ⊢
            refine tf_go hx ftX8_outermost 1 [false] 38 [some (.ref 120), some (.ref 55), some (.int (nI l)), some (.int (nI g)), some (.int (tf_on 10000 q)), some (.int (nI k)), none] [] S rfl ⟨by decide, by decide, rfl⟩ ⟨trivial, (by decide)⟩ ?_
            refine tf_go hx ftX8_outermost 2 [] 41 [some (.ref 120), some (.ref 55), some (.int (nI l)), some (.int (nI g)), some (.int (tf_on 10000 q)), some (.int (nI k)), none] [.int (nI k), .ref 55] S rfl ⟨by decide, by decide, rfl⟩ trivial ?_
            refine tf_cV hx ftX8_outermost (nx := 44) (As := [.int (nI k)]) (rest := []) (st2 := [.int (nI (f (324 + k)))]) (v_at hR5 e2) rfl lX8_31 (by first | assumption | rfl | decide) rfl ⟨rfl, by decide, by decide, by decide, rfl, rfl⟩ ?_
            refine tf_go hx ftX8_outermost 1 [] 46 [some (.ref 120), some (.ref 55), some (.int (nI l)), some (.int (nI g)), some (.int (tf_on 10000 q)), some (.int (nI k)), some (.int (nI (f (324 + k))))] [] S rfl ⟨by decide, by decide, rfl⟩ trivial ?_
            have vb := hb (324 + k)
            generalize f (324 + k) = v at *
            by_cases e4 : q < 10000
            · rw [show tf_on 10000 q = nI q from tf_on_y e4]
              refine tf_go hx ftX8_outermost 1 [] 48 [some (.ref 120), some (.ref 55), some (.int (nI l)), some (.int (nI g)), some (.int (nI q)), some (.int (nI k)), some (.int (nI v))] [.int (nI q)] S rfl ⟨by decide, by decide, rfl⟩ trivial ?_
              refine tf_go hx ftX8_outermost 1 [false] 51 [some (.ref 120), some (.ref 55), some (.int (nI l)), some (.int (nI g)), some (.int (nI q)), some (.int (nI k)), some (.int (nI v))] [] S rfl ⟨by decide, by decide, rfl⟩ ⟨trivial, (tf_ltF (a := q) (b := 0) rfl (rfl : (0 : Int32) = nI 0) (by omega) (by omega) (by omega))⟩ ?_
              refine tf_go hx ftX8_outermost 1 [] 52 [some (.ref 120), some (.ref 55), some (.int (nI l)), some (.int (nI g)), some (.int (nI q)), some (.int (nI k)), some (.int (nI v))] [.int (nI g)] S rfl ⟨by decide, by decide, rfl⟩ trivial ?_
              by_cases e5 : g = 0
              · refine tf_go hx ftX8_outermost 1 [true] 65 [some (.ref 120), some (.ref 55), some (.int (nI l)), some (.int (nI g)), some (.int (nI q)), some (.int (nI k)), some (.int (nI v))] [] S rfl ⟨by decide, by decide, rfl⟩ ⟨trivial, (tf_eqT (a := g) (b := 0) rfl (rfl : (0 : Int32) = nI 0) (by omega))⟩ ?_
                refine tf_go hx ftX8_outermost 2 [] 69 [some (.ref 120), some (.ref 55), some (.int (nI l)), some (.int (nI g)), some (.int (nI q)), some (.int (nI k)), some (.int (nI v))] [.int (nI q), .int (nI v)] S rfl ⟨by decide, by decide, rfl⟩ trivial ?_
                by_cases e6 : v < q
                · refine tf_go hx ftX8_outermost 1 [false] 72 [some (.ref 120), some (.ref 55), some (.int (nI l)), some (.int (nI g)), some (.int (nI q)), some (.int (nI k)), some (.int (nI v))] [] S rfl ⟨by decide, by decide, rfl⟩ ⟨trivial, (tf_leF (a := q) (b := v) rfl rfl (by omega) (by omega) (by omega))⟩ ?_
                  rw [if_pos (Or.inr (by rw [if_neg (fun h => h e5)]; exact e6))] at he
                  refine tf_go hx ftX8_outermost 2 [] 76 [some (.ref 120), some (.ref 55), some (.int (nI l)), some (.int (nI g)), some (.int (nI v)), some (.int (nI k)), some (.int (nI v))] [] S rfl ⟨by decide, by decide, rfl⟩ trivial ?_
                  refine tf_go hx ftX8_outermost 2 [] 7 [some (.ref 120), some (.ref 55), some (.int (nI l)), some (.int (nI g)), some (.int (nI v)), some (.int ((nI k) + 1)), some (.int (nI v))] [] S rfl ⟨by decide, by decide, rfl⟩ trivial ?_
                  rw [show ((nI k) + 1) = nI (k + 1) from (tf_add (a := k) (b := 1) rfl (rfl : (1 : Int32) = nI 1))]
                  refine tf_fgt [some (.ref 120), some (.ref 55), some (.int (nI l)), some (.int (nI g)), some (.int (nI v)), some (.int (nI (k + 1))), none] (by simp [tf_lss]) ?_
                  have h0 := ih (k + 1) v (by omega) he (by omega) (by omega) (by omega)
                  rw [tf_on_y vb] at h0
                  exact h0
                · refine tf_go hx ftX8_outermost 1 [true] 76 [some (.ref 120), some (.ref 55), some (.int (nI l)), some (.int (nI g)), some (.int (nI q)), some (.int (nI k)), some (.int (nI v))] [] S rfl ⟨by decide, by decide, rfl⟩ ⟨trivial, (tf_leT (a := q) (b := v) rfl rfl (by omega) (by omega) (by omega))⟩ ?_
                  rw [if_neg (by rintro (h | h); omega; rw [if_neg (fun h => h e5)] at h; exact e6 h)] at he
                  refine tf_go hx ftX8_outermost 2 [] 7 [some (.ref 120), some (.ref 55), some (.int (nI l)), some (.int (nI g)), some (.int (nI q)), some (.int ((nI k) + 1)), some (.int (nI v))] [] S rfl ⟨by decide, by decide, rfl⟩ trivial ?_
                  rw [show ((nI k) + 1) = nI (k + 1) from (tf_add (a := k) (b := 1) rfl (rfl : (1 : Int32) = nI 1))]
                  refine tf_fgt [some (.ref 120), some (.ref 55), some (.int (nI l)), some (.int (nI g)), some (.int (nI q)), some (.int (nI (k + 1))), none] (by simp [tf_lss]) ?_
                  have h0 := ih (k + 1) q (by omega) he (by omega) (by omega) hq
                  rw [tf_on_y e4] at h0
                  exact h0
              · refine tf_go hx ftX8_outermost 1 [false] 55 [some (.ref 120), some (.ref 55), some (.int (nI l)), some (.int (nI g)), some (.int (nI q)), some (.int (nI k)), some (.int (nI v))] [] S rfl ⟨by decide, by decide, rfl⟩ ⟨trivial, (tf_eqF (a := g) (b := 0) rfl (rfl : (0 : Int32) = nI 0) (by omega) (by omega) (by omega))⟩ ?_
                refine tf_go hx ftX8_outermost 2 [] 59 [some (.ref 120), some (.ref 55), some (.int (nI l)), some (.int (nI g)), some (.int (nI q)), some (.int (nI k)), some (.int (nI v))] [.int (nI q), .int (nI v)] S rfl ⟨by decide, by decide, rfl⟩ trivial ?_
                by_cases e6 : q < v
                · refine tf_go hx ftX8_outermost 1 [false] 62 [some (.ref 120), some (.ref 55), some (.int (nI l)), some (.int (nI g)), some (.int (nI q)), some (.int (nI k)), some (.int (nI v))] [] S rfl ⟨by decide, by decide, rfl⟩ ⟨trivial, (tf_leF (a := v) (b := q) rfl rfl (by omega) (by omega) (by omega))⟩ ?_
                  refine tf_go hx ftX8_outermost 1 [] 72 [some (.ref 120), some (.ref 55), some (.int (nI l)), some (.int (nI g)), some (.int (nI q)), some (.int (nI k)), some (.int (nI v))] [] S rfl ⟨by decide, by decide, rfl⟩ trivial ?_
                  rw [if_pos (Or.inr (by rw [if_pos e5]; exact e6))] at he
                  refine tf_go hx ftX8_outermost 2 [] 76 [some (.ref 120), some (.ref 55), some (.int (nI l)), some (.int (nI g)), some (.int (nI v)), some (.int (nI k)), some (.int (nI v))] [] S rfl ⟨by decide, by decide, rfl⟩ trivial ?_
                  refine tf_go hx ftX8_outermost 2 [] 7 [some (.ref 120), some (.ref 55), some (.int (nI l)), some (.int (nI g)), some (.int (nI v)), some (.int ((nI k) + 1)), some (.int (nI v))] [] S rfl ⟨by decide, by decide, rfl⟩ trivial ?_
                  rw [show ((nI k) + 1) = nI (k + 1) from (tf_add (a := k) (b := 1) rfl (rfl : (1 : Int32) = nI 1))]
                  refine tf_fgt [some (.ref 120), some (.ref 55), some (.int (nI l)), some (.int (nI g)), some (.int (nI v)), some (.int (nI (k + 1))), none] (by simp [tf_lss]) ?_
                  have h0 := ih (k + 1) v (by omega) he (by omega) (by omega) (by omega)
                  rw [tf_on_y vb] at h0
                  exact h0
                · refine tf_go hx ftX8_outermost 1 [true] 76 [some (.ref 120), some (.ref 55), some (.int (nI l)), some (.int (nI g)), some (.int (nI q)), some (.int (nI k)), some (.int (nI v))] [] S rfl ⟨by decide, by decide, rfl⟩ ⟨trivial, (tf_leT (a := v) (b := q) rfl rfl (by omega) (by omega) (by omega))⟩ ?_
                  rw [if_neg (by rintro (h | h); omega; rw [if_pos e5] at h; exact e6 h)] at he
                  refine tf_go hx ftX8_outermost 2 [] 7 [some (.ref 120), some (.ref 55), some (.int (nI l)), some (.int (nI g)), some (.int (nI q)), some (.int ((nI k) + 1)), some (.int (nI v))] [] S rfl ⟨by decide, by decide, rfl⟩ trivial ?_
                  rw [show ((nI k) + 1) = nI (k + 1) from (tf_add (a := k) (b := 1) rfl (rfl : (1 : Int32) = nI 1))]
                  refine tf_fgt [some (.ref 120), some (.ref 55), some (.int (nI l)), some (.int (nI g)), some (.int (nI q)), some (.int (nI (k + 1))), none] (by simp [tf_lss]) ?_
                  have h0 := ih (k + 1) q (by omega) he (by omega) (by omega) hq
                  rw [tf_on_y e4] at h0
                  exact h0
            · rw [tf_on_n e4]
              refine tf_go hx ftX8_outermost 1 [] 48 [some (.ref 120), some (.ref 55), some (.int (nI l)), some (.int (nI g)), some (.int (-9)), some (.int (nI k)), some (.int (nI v))] [.int (-9)] S rfl ⟨by decide, by decide, rfl⟩ trivial ?_
              refine tf_go hx ftX8_outermost 1 [true] 72 [some (.ref 120), some (.ref 55), some (.int (nI l)), some (.int (nI g)), some (.int (-9)), some (.int (nI k)), some (.int (nI v))] [] S rfl ⟨by decide, by decide, rfl⟩ ⟨trivial, (by decide)⟩ ?_
              rw [if_pos (Or.inl (by omega))] at he
              refine tf_go hx ftX8_outermost 2 [] 76 [some (.ref 120), some (.ref 55), some (.int (nI l)), some (.int (nI g)), some (.int (nI v)), some (.int (nI k)), some (.int (nI v))] [] S rfl ⟨by decide, by decide, rfl⟩ trivial ?_
              refine tf_go hx ftX8_outermost 2 [] 7 [some (.ref 120), some (.ref 55), some (.int (nI l)), some (.int (nI g)), some (.int (nI v)), some (.int ((nI k) + 1)), some (.int (nI v))] [] S rfl ⟨by decide, by decide, rfl⟩ trivial ?_
              rw [show ((nI k) + 1) = nI (k + 1) from (tf_add (a := k) (b := 1) rfl (rfl : (1 : Int32) = nI 1))]
              refine tf_fgt [some (.ref 120), some (.ref 55), some (.int (nI l)), some (.int (nI g)), some (.int (nI v)), some (.int (nI (k + 1))), none] (by simp [tf_lss]) ?_
              have h0 := ih (k + 1) v (by omega) he (by omega) (by omega) (by omega)
              rw [tf_on_y vb] at h0
              exact h0
          · rw [if_neg e3] at he ⊢
            refine tf_go hx ftX8_outermost 1 [true] 76 [some (.ref 120), some (.ref 55), some (.int (nI l)), some (.int (nI g)), some (.int (tf_on 10000 q)), some (.int (nI k)), none] [] S rfl ⟨by decide, by decide, rfl⟩ ⟨trivial, rfl⟩ ?_
            refine tf_go hx ftX8_outermost 2 [] 7 [some (.ref 120), some (.ref 55), some (.int (nI l)), some (.int (nI g)), some (.int (tf_on 10000 q)), some (.int ((nI k) + 1)), none] [] S rfl ⟨by decide, by decide, rfl⟩ trivial ?_
            rw [show ((nI k) + 1) = nI (k + 1) from (tf_add (a := k) (b := 1) rfl (rfl : (1 : Int32) = nI 1))]
            refine tf_fgt [some (.ref 120), some (.ref 55), some (.int (nI l)), some (.int (nI g)), some (.int (tf_on 10000 q)), some (.int (nI (k + 1))), none] (by simp [tf_lss]) ?_
            exact ih (k + 1) q (by omega) he (by omega) (by omega) hq
        · rw [if_neg (fun h => e2 h.1)] at he
          refine tf_go hx ftX8_outermost 2 [true] 84 [some (.ref 120), some (.ref 55), some (.int (nI l)), some (.int (nI g)), some (.int (tf_on 10000 q)), some (.int (nI k)), none] [.int (tf_on 10000 q)] S rfl ⟨by decide, by decide, rfl⟩ ⟨trivial, (tf_leT (a := (f 367)) (b := k) rfl rfl (by have := hb 367; omega) (by have := hb 367; omega) (by have := hb 367; omega))⟩ ?_
          exact tf_ret ftX8_outermost hR rfl ⟨by decide, by decide⟩ rfl rfl (by rw [← he]; rfl)
      · rw [if_neg (fun h => e1 h.2)] at he
        refine tf_go hx ftX8_outermost 2 [true] 84 [some (.ref 120), some (.ref 55), some (.int (nI l)), some (.int (nI g)), some (.int (tf_on 10000 q)), some (.int (nI k)), none] [.int (tf_on 10000 q)] S rfl ⟨by decide, by decide, rfl⟩ ⟨trivial, (tf_leT (a := (f 364)) (b := k) rfl rfl (by have := hb 364; omega) (by have := hb 364; omega) (by have := hb 364; omega))⟩ ?_
        exact tf_ret ftX8_outermost hR rfl ⟨by decide, by decide⟩ rfl rfl (by rw [← he]; rfl)
  exact loop 40 1 10000 rfl rfl (by omega) (by omega) (by omega)

set_option maxHeartbeats 1000000 in
theorem t_acheAt {N : Nat} {S : tf_Sg} {f : Nat → Nat} {b i : Nat} (hK : tf_sV (tf_GG N) S 121 40 (f 364) (fun j => tf_on 30 (tf_kk f b j))) (hg : tf_gd f) (hb : ∀ k, f k < 10000) (h1 : tf_k1 (tf_GG N) S) (hi : i < f 364) : tf_Fn mX8_acheAt 4 0 0 (tf_GG N) S [.ref 120, .int (nI i)] (tf_GG N) S (some (.int (nI (tf_ah f b i)))) := by
  have f40 := hK.2.2.1
  refine tf_Fn_of (own := RX8) false ⟨by decide, rfl, by decide⟩ (Nat.le_of_ble_eq_true rfl) trivial (fun x hx hR => ?_)
  show tf_K x 0 0 (tf_GG N) S 0 [some (.ref 120), some (.int (nI i)), none, none] []
  have kp := tf_pr_le (K := tf_kk f b) (n := f 364) (i := i) (fun i _ => tf_kk_le f b i) (by omega)
  have kc := tf_kk_le f b i
  have ae := tf_ah_eq f b i
  rw [ae] at hR
  refine tf_go hx ftX8_acheAt 3 [] 5 [some (.ref 120), some (.int (nI i)), none, none] [.int (nI i), .ref 121] S rfl ⟨by decide, by decide, rfl⟩ ⟨trivial, ⟨by first | assumption | rfl | decide | omega | exact Nat.succ_ne_zero _, by first | assumption | rfl | decide | omega | exact Nat.succ_ne_zero _⟩⟩ ?_
  refine tf_cV hx ftX8_acheAt (nx := 8) (As := [.int (nI i)]) (rest := []) (st2 := [.int (tf_on 30 (tf_kk f b i))]) (v_at hK hi) rfl lX8_31 (by first | assumption | rfl | decide) rfl ⟨rfl, by decide, by decide, by decide, rfl, rfl⟩ ?_
  refine tf_go hx ftX8_acheAt 1 [] 9 [some (.ref 120), some (.int (nI i)), some (.int (tf_on 30 (tf_kk f b i))), none] [] S rfl ⟨by decide, by decide, rfl⟩ trivial ?_
  refine tf_go hx ftX8_acheAt 5 [] 16 [some (.ref 120), some (.int (nI i)), some (.int (tf_on 30 (tf_kk f b i))), none] [.int ((nI i) - 1), .ref 121] S rfl ⟨by decide, by decide, rfl⟩ ⟨trivial, ⟨by first | assumption | rfl | decide | omega | exact Nat.succ_ne_zero _, by first | assumption | rfl | decide | omega | exact Nat.succ_ne_zero _⟩⟩ ?_
  refine tf_cV hx ftX8_acheAt (nx := 19) (As := [.int ((nI i) - 1)]) (rest := []) (st2 := [.int (tf_on 30 (tf_pr (tf_kk f b) i))]) (v_prevK hK (show i ≤ f 364 by omega)) rfl lX8_31 (by first | assumption | rfl | decide) rfl ⟨rfl, by decide, by decide, by decide, rfl, rfl⟩ ?_
  refine tf_go hx ftX8_acheAt 1 [] 20 [some (.ref 120), some (.int (nI i)), some (.int (tf_on 30 (tf_kk f b i))), some (.int (tf_on 30 (tf_pr (tf_kk f b) i)))] [] S rfl ⟨by decide, by decide, rfl⟩ trivial ?_
  generalize tf_pr (tf_kk f b) i = p at *
  generalize tf_kk f b i = q at *
  by_cases e1 : q = 30
  · rw [show tf_on 30 q = -9 by rw [e1]; rfl]
    refine tf_go hx ftX8_acheAt 1 [] 21 [some (.ref 120), some (.int (nI i)), some (.int (-9)), some (.int (tf_on 30 p))] [.int (-9)] S rfl ⟨by decide, by decide, rfl⟩ trivial ?_
    refine tf_cN hx ftX8_acheAt (nx := 24) (As := [.int (-9)]) (rest := []) (st2 := [.int (if ¬ (-9) < 0 ∧ ¬ 30 ≤ (-9) then 0 else 1)]) (c_noKey (-9)) rfl lX8_43 rfl ⟨rfl, by decide, by decide, by decide, rfl, rfl⟩ ?_
    rw [if_neg (show ¬ (¬ (-9 : Int32) < 0 ∧ ¬ 30 ≤ (-9 : Int32)) by decide)]
    refine tf_go hx ftX8_acheAt 2 [false] 28 [some (.ref 120), some (.int (nI i)), some (.int (-9)), some (.int (tf_on 30 p))] [.int 0] S rfl ⟨by decide, by decide, rfl⟩ ⟨trivial, (by decide)⟩ ?_
    exact tf_ret ftX8_acheAt hR rfl ⟨by decide, by decide⟩ rfl rfl (by rw [if_pos e1]; rfl)
  · have q30 : q < 30 := by omega
    rw [tf_on_y q30]
    refine tf_go hx ftX8_acheAt 1 [] 21 [some (.ref 120), some (.int (nI i)), some (.int (nI q)), some (.int (tf_on 30 p))] [.int (nI q)] S rfl ⟨by decide, by decide, rfl⟩ trivial ?_
    refine tf_cN hx ftX8_acheAt (nx := 24) (As := [.int (nI q)]) (rest := []) (st2 := [.int (if ¬ (nI q) < 0 ∧ ¬ 30 ≤ (nI q) then 0 else 1)]) (c_noKey (nI q)) rfl lX8_43 rfl ⟨rfl, by decide, by decide, by decide, rfl, rfl⟩ ?_
    rw [if_pos (show ¬ nI q < 0 ∧ ¬ 30 ≤ nI q from ⟨tf_ltF (a := q) (b := 0) rfl rfl (by omega) (by omega) (by omega), tf_leF (a := 30) (b := q) rfl rfl (by omega) (by omega) (by omega)⟩)]
    refine tf_go hx ftX8_acheAt 1 [true] 29 [some (.ref 120), some (.int (nI i)), some (.int (nI q)), some (.int (tf_on 30 p))] [] S rfl ⟨by decide, by decide, rfl⟩ ⟨trivial, rfl⟩ ?_
    by_cases e2 : p < 30
    · rw [tf_on_y e2]
      refine tf_go hx ftX8_acheAt 1 [] 30 [some (.ref 120), some (.int (nI i)), some (.int (nI q)), some (.int (nI p))] [.int (nI p)] S rfl ⟨by decide, by decide, rfl⟩ trivial ?_
      refine tf_cN hx ftX8_acheAt (nx := 33) (As := [.int (nI p)]) (rest := []) (st2 := [.int (if ¬ (nI p) < 0 ∧ ¬ 30 ≤ (nI p) then 0 else 1)]) (c_noKey (nI p)) rfl lX8_43 rfl ⟨rfl, by decide, by decide, by decide, rfl, rfl⟩ ?_
      rw [if_pos (show ¬ nI p < 0 ∧ ¬ 30 ≤ nI p from ⟨tf_ltF (a := p) (b := 0) rfl rfl (by omega) (by omega) (by omega), tf_leF (a := 30) (b := p) rfl rfl (by omega) (by omega) (by omega)⟩)]
      refine tf_go hx ftX8_acheAt 1 [false] 36 [some (.ref 120), some (.int (nI i)), some (.int (nI q)), some (.int (nI p))] [] S rfl ⟨by decide, by decide, rfl⟩ ⟨trivial, (by decide)⟩ ?_
      refine tf_go hx ftX8_acheAt 3 [] 39 [some (.ref 120), some (.int (nI i)), some (.int (nI q)), some (.int (nI p))] [.int 0, .int (nI q), .int (nI p)] S rfl ⟨by decide, by decide, rfl⟩ trivial ?_
      refine tf_cS hx ftX8_acheAt (nx := 42) (As := [.int (nI p), .int (nI q), .int 0]) (rest := []) (st2 := [.int (nI (tf_la p q 0))]) (k_law p q 0 h1 e2 q30 (by decide)) rfl lX8_67 rfl ⟨rfl, by decide, by decide, by decide, rfl, rfl⟩ ?_
      have la := tf_la_le p q 0
      refine tf_go hx ftX8_acheAt 1 [] 43 [some (.ref 120), some (.int (nI i)), some (.int (nI q)), some (.int (nI p))] [.int 3, .int (nI (tf_la p q 0))] S rfl ⟨by decide, by decide, rfl⟩ trivial ?_
      by_cases e3 : tf_la p q 0 = 3
      · refine tf_go hx ftX8_acheAt 3 [false] 51 [some (.ref 120), some (.int (nI i)), some (.int (nI q)), some (.int (nI p))] [.int 3] S rfl ⟨by decide, by decide, rfl⟩ ⟨trivial, (tf_neF (a := (tf_la p q 0)) (b := 3) rfl (rfl : (3 : Int32) = nI 3) (by omega))⟩ ?_
        exact tf_ret ftX8_acheAt hR rfl ⟨by decide, by decide⟩ rfl rfl (by rw [if_neg e1, if_pos ⟨e2, e3⟩]; rfl)
      · refine tf_go hx ftX8_acheAt 2 [true] 51 [some (.ref 120), some (.int (nI i)), some (.int (nI q)), some (.int (nI p))] [.int 1] S rfl ⟨by decide, by decide, rfl⟩ ⟨trivial, (tf_eqF (a := (tf_la p q 0)) (b := 3) rfl (rfl : (3 : Int32) = nI 3) (by omega) (by omega) (by omega))⟩ ?_
        exact tf_ret ftX8_acheAt hR rfl ⟨by decide, by decide⟩ rfl rfl (by rw [if_neg e1, if_neg (fun h => e3 h.2)]; rfl)
    · rw [tf_on_n e2]
      refine tf_go hx ftX8_acheAt 1 [] 30 [some (.ref 120), some (.int (nI i)), some (.int (nI q)), some (.int (-9))] [.int (-9)] S rfl ⟨by decide, by decide, rfl⟩ trivial ?_
      refine tf_cN hx ftX8_acheAt (nx := 33) (As := [.int (-9)]) (rest := []) (st2 := [.int (if ¬ (-9) < 0 ∧ ¬ 30 ≤ (-9) then 0 else 1)]) (c_noKey (-9)) rfl lX8_43 rfl ⟨rfl, by decide, by decide, by decide, rfl, rfl⟩ ?_
      rw [if_neg (show ¬ (¬ (-9 : Int32) < 0 ∧ ¬ 30 ≤ (-9 : Int32)) by decide)]
      refine tf_go hx ftX8_acheAt 2 [true] 51 [some (.ref 120), some (.int (nI i)), some (.int (nI q)), some (.int (-9))] [.int 1] S rfl ⟨by decide, by decide, rfl⟩ ⟨trivial, (by decide)⟩ ?_
      exact tf_ret ftX8_acheAt hR rfl ⟨by decide, by decide⟩ rfl rfl (by rw [if_neg e1, if_neg (fun h => e2 h.1)]; rfl)

set_option maxHeartbeats 1000000 in
theorem t_acheOf {N : Nat} {S : tf_Sg} {f : Nat → Nat} {b c : Nat} (hK : tf_sV (tf_GG N) S 121 40 (f 364) (fun j => tf_on 30 (tf_kk f b j))) (hg : tf_gd f) (hb : ∀ k, f k < 10000) (h1 : tf_k1 (tf_GG N) S) (hc : c < 8) : tf_Fn mX8_acheOf 5 0 0 (tf_GG N) S [.ref 120, .int (nI c)] (tf_GG N) S (some (.int (nI (tf_as f b c 41 0)))) := by
  have f40 := hK.2.2.1
  refine tf_Fn_of (own := RX8) false ⟨by decide, rfl, by decide⟩ (Nat.le_of_ble_eq_true rfl) trivial (fun x hx hR => ?_)
  show tf_K x 0 0 (tf_GG N) S 0 [some (.ref 120), some (.int (nI c)), none, none] []
  refine tf_go hx ftX8_acheOf 4 [] 4 [some (.ref 120), some (.int (nI c)), some (.int 0), some (.int 0)] [] S rfl ⟨by decide, by decide, rfl⟩ trivial ?_
  have loop : ∀ (m k : Nat) (y : Nat), k + m = 41 → (y + tf_as f b c m k = tf_as f b c 41 0) → (k ≤ 40) → (y ≤ 3 * k) → tf_K x 0 0 (tf_GG N) S 4 [some (.ref 120), some (.int (nI c)), some (.int (nI y)), some (.int (nI k))] [] := by
    intro m
    induction m with
    | zero =>
      intro k y hk he hk4 hy
      exact absurd hk4 (by omega)
    | succ m ih =>
      intro k y hk he hk4 hy
      rw [tf_as_s] at he
      have al := tf_ah_le f b k
      have kc := tf_kk_le f b k
      refine tf_go hx ftX8_acheOf 3 [] 9 [some (.ref 120), some (.int (nI c)), some (.int (nI y)), some (.int (nI k))] [.ref 121, .int (nI k)] S rfl ⟨by decide, by decide, rfl⟩ ⟨trivial, ⟨by first | assumption | rfl | decide | omega | exact Nat.succ_ne_zero _, by first | assumption | rfl | decide | omega | exact Nat.succ_ne_zero _⟩⟩ ?_
      refine tf_cV hx ftX8_acheOf (nx := 12) (As := []) (rest := [.int (nI k)]) (st2 := [.int (nI (f 364)), .int (nI k)]) (v_size hK) rfl lX8_27 (by first | assumption | rfl | decide) rfl ⟨rfl, by decide, by decide, by decide, rfl, rfl⟩ ?_
      by_cases e1 : k < f 364
      · rw [if_pos e1] at he
        refine tf_go hx ftX8_acheOf 1 [false] 15 [some (.ref 120), some (.int (nI c)), some (.int (nI y)), some (.int (nI k))] [] S rfl ⟨by decide, by decide, rfl⟩ ⟨trivial, (tf_leF (a := (f 364)) (b := k) rfl rfl (by have := hb 364; omega) (by have := hb 364; omega) (by have := hb 364; omega))⟩ ?_
        refine tf_go hx ftX8_acheOf 3 [] 20 [some (.ref 120), some (.int (nI c)), some (.int (nI y)), some (.int (nI k))] [.int (nI k), .ref 121] S rfl ⟨by decide, by decide, rfl⟩ ⟨trivial, ⟨by first | assumption | rfl | decide | omega | exact Nat.succ_ne_zero _, by first | assumption | rfl | decide | omega | exact Nat.succ_ne_zero _⟩⟩ ?_
        refine tf_cV hx ftX8_acheOf (nx := 23) (As := [.int (nI k)]) (rest := []) (st2 := [.int (tf_on 30 (tf_kk f b k))]) (v_at hK e1) rfl lX8_31 (by first | assumption | rfl | decide) rfl ⟨rfl, by decide, by decide, by decide, rfl, rfl⟩ ?_
        refine tf_go hx ftX8_acheOf 1 [] 24 [some (.ref 120), some (.int (nI c)), some (.int (nI y)), some (.int (nI k))] [.int 0, .int (tf_on 30 (tf_kk f b k))] S rfl ⟨by decide, by decide, rfl⟩ trivial ?_
        have he2 : y + ((if tf_kk f b k < 30 ∧ tf_fi (tf_kk f b k) 0 = c then tf_ah f b k else 0) + tf_as f b c m (k + 1)) = tf_as f b c 41 0 := he
        by_cases e2 : tf_kk f b k < 30
        · rw [tf_on_y e2]
          refine tf_cS hx ftX8_acheOf (nx := 27) (As := [.int (nI (tf_kk f b k)), .int 0]) (rest := []) (st2 := [.int (nI (tf_fi (tf_kk f b k) 0))]) (k_finger (tf_kk f b k) 0 h1 e2 (by decide)) rfl lX8_80 rfl ⟨rfl, by decide, by decide, by decide, rfl, rfl⟩ ?_
          have fl := tf_fi_le (tf_kk f b k) 0
          refine tf_go hx ftX8_acheOf 1 [] 28 [some (.ref 120), some (.int (nI c)), some (.int (nI y)), some (.int (nI k))] [.int (nI c), .int (nI (tf_fi (tf_kk f b k) 0))] S rfl ⟨by decide, by decide, rfl⟩ trivial ?_
          by_cases e3 : tf_fi (tf_kk f b k) 0 = c
          · rw [if_pos ⟨e2, e3⟩] at he2
            refine tf_go hx ftX8_acheOf 1 [false] 31 [some (.ref 120), some (.int (nI c)), some (.int (nI y)), some (.int (nI k))] [] S rfl ⟨by decide, by decide, rfl⟩ ⟨trivial, (tf_neF (a := (tf_fi (tf_kk f b k) 0)) (b := c) rfl rfl (by have := hb b; omega))⟩ ?_
            refine tf_go hx ftX8_acheOf 3 [] 34 [some (.ref 120), some (.int (nI c)), some (.int (nI y)), some (.int (nI k))] [.int (nI k), .ref 120, .int (nI y)] S rfl ⟨by decide, by decide, rfl⟩ trivial ?_
            refine tf_cV hx ftX8_acheOf (nx := 37) (As := [.int (nI k)]) (rest := [.int (nI y)]) (st2 := [.int (nI (tf_ah f b k)), .int (nI y)]) (t_acheAt hK hg hb h1 e1) rfl lX8_84 (by first | assumption | rfl | decide) rfl ⟨rfl, by decide, by decide, by decide, rfl, rfl⟩ ?_
            refine tf_go hx ftX8_acheOf 2 [] 39 [some (.ref 120), some (.int (nI c)), some (.int ((nI y) + (nI (tf_ah f b k)))), some (.int (nI k))] [] S rfl ⟨by decide, by decide, rfl⟩ trivial ?_
            rw [show ((nI y) + (nI (tf_ah f b k))) = nI (y + (tf_ah f b k)) from (tf_add (a := y) (b := (tf_ah f b k)) rfl rfl)]
            refine tf_go hx ftX8_acheOf 2 [] 4 [some (.ref 120), some (.int (nI c)), some (.int (nI (y + (tf_ah f b k)))), some (.int ((nI k) + 1))] [] S rfl ⟨by decide, by decide, rfl⟩ trivial ?_
            rw [show ((nI k) + 1) = nI (k + 1) from (tf_add (a := k) (b := 1) rfl (rfl : (1 : Int32) = nI 1))]
            exact ih (k + 1) (y + tf_ah f b k) (by omega) (by omega) (by omega) (by omega)
          · rw [if_neg (fun h => e3 h.2)] at he2
            refine tf_go hx ftX8_acheOf 1 [true] 39 [some (.ref 120), some (.int (nI c)), some (.int (nI y)), some (.int (nI k))] [] S rfl ⟨by decide, by decide, rfl⟩ ⟨trivial, (tf_eqF (a := (tf_fi (tf_kk f b k) 0)) (b := c) rfl rfl (by have := hb b; omega) (by have := hb b; omega) (by have := hb b; omega))⟩ ?_
            refine tf_go hx ftX8_acheOf 2 [] 4 [some (.ref 120), some (.int (nI c)), some (.int (nI y)), some (.int ((nI k) + 1))] [] S rfl ⟨by decide, by decide, rfl⟩ trivial ?_
            rw [show ((nI k) + 1) = nI (k + 1) from (tf_add (a := k) (b := 1) rfl (rfl : (1 : Int32) = nI 1))]
            exact ih (k + 1) y (by omega) (by omega) (by omega) (by omega)
        · rw [if_neg (fun h => e2 h.1)] at he2
          rw [tf_on_n e2]
          refine tf_cS hx ftX8_acheOf (nx := 27) (As := [.int (-9), .int 0]) (rest := []) (st2 := [.int (-9)]) (k_finger9 0) rfl lX8_80 rfl ⟨rfl, by decide, by decide, by decide, rfl, rfl⟩ ?_
          refine tf_go hx ftX8_acheOf 1 [] 28 [some (.ref 120), some (.int (nI c)), some (.int (nI y)), some (.int (nI k))] [.int (nI c), .int (-9)] S rfl ⟨by decide, by decide, rfl⟩ trivial ?_
          refine tf_go hx ftX8_acheOf 1 [true] 39 [some (.ref 120), some (.int (nI c)), some (.int (nI y)), some (.int (nI k))] [] S rfl ⟨by decide, by decide, rfl⟩ ⟨trivial, (fun q => tf_n9 (a := c) (by omega) q.symm)⟩ ?_
          refine tf_go hx ftX8_acheOf 2 [] 4 [some (.ref 120), some (.int (nI c)), some (.int (nI y)), some (.int ((nI k) + 1))] [] S rfl ⟨by decide, by decide, rfl⟩ trivial ?_
          rw [show ((nI k) + 1) = nI (k + 1) from (tf_add (a := k) (b := 1) rfl (rfl : (1 : Int32) = nI 1))]
          exact ih (k + 1) y (by omega) (by omega) (by omega) (by omega)
      · rw [if_neg e1] at he
        refine tf_go hx ftX8_acheOf 2 [true] 46 [some (.ref 120), some (.int (nI c)), some (.int (nI y)), some (.int (nI k))] [.int (nI y)] S rfl ⟨by decide, by decide, rfl⟩ ⟨trivial, (tf_leT (a := (f 364)) (b := k) rfl rfl (by have := hb 364; omega) (by have := hb 364; omega) (by have := hb 364; omega))⟩ ?_
        exact tf_ret ftX8_acheOf hR rfl ⟨by decide, by decide⟩ rfl rfl (by rw [← he]; rfl)
  exact loop 41 0 0 rfl (by omega) (by omega) (by omega)

set_option maxHeartbeats 1000000 in
theorem t_pauses {N : Nat} {S : tf_Sg} {f : Nat → Nat} {b l r : Nat} (hK : tf_sV (tf_GG N) S 121 40 (f 364) (fun j => tf_on 30 (tf_kk f b j))) (hg : tf_gd f) (hb : ∀ k, f k < 10000) (h1 : tf_k1 (tf_GG N) S) (hl9 : l ≤ 999) (hr9 : r ≤ 999) : tf_Fn mX8_pausesWith 5 0 0 (tf_GG N) S [.ref 120, .int (nI l), .int (nI r)] (tf_GG N) S (some (.int (tf_on 100000 (tf_pz f b l r 41 0 0 0)))) := by
  have f40 := hK.2.2.1
  refine tf_Fn_of (own := RX8) false ⟨by decide, rfl, by decide⟩ (Nat.le_of_ble_eq_true rfl) trivial (fun x hx hR => ?_)
  show tf_K x 0 0 (tf_GG N) S 0 [some (.ref 120), some (.int (nI l)), some (.int (nI r)), none, none, none, none, none, none] []
  refine tf_go hx ftX8_pausesWith 6 [] 8 [some (.ref 120), some (.int (nI l)), some (.int (nI r)), some (.int 0), some (.int 0), some (.int 0), none, none, none] [] S rfl ⟨by decide, by decide, rfl⟩ trivial ?_
  refine tf_fgt [some (.ref 120), some (.int (nI l)), some (.int (nI r)), some (.int 0), some (.int 0), some (.int 0), none, none, none] (by simp [tf_lss]) ?_
  have loop : ∀ (m k : Nat) (t : Nat) (n : Nat), k + m = 41 → (tf_pz f b l r m k t n = tf_pz f b l r 41 0 0 0) → (k ≤ 40) → (t ≤ l) → (n ≤ 3 * k) → tf_K x 0 0 (tf_GG N) S 8 [some (.ref 120), some (.int (nI l)), some (.int (nI r)), some (.int (nI t)), some (.int (nI n)), some (.int (nI k)), none, none, none] [] := by
    intro m
    induction m with
    | zero =>
      intro k t n hk he hk4 ht hn
      exact absurd hk4 (by omega)
    | succ m ih =>
      intro k t n hk he hk4 ht hn
      rw [tf_pz_s] at he
      have al := tf_ah_le f b k
      refine tf_go hx ftX8_pausesWith 3 [] 14 [some (.ref 120), some (.int (nI l)), some (.int (nI r)), some (.int (nI t)), some (.int (nI n)), some (.int (nI k)), none, none, none] [.ref 121, .int (nI k)] S rfl ⟨by decide, by decide, rfl⟩ ⟨trivial, ⟨by first | assumption | rfl | decide | omega | exact Nat.succ_ne_zero _, by first | assumption | rfl | decide | omega | exact Nat.succ_ne_zero _⟩⟩ ?_
      refine tf_cV hx ftX8_pausesWith (nx := 17) (As := []) (rest := [.int (nI k)]) (st2 := [.int (nI (f 364)), .int (nI k)]) (v_size hK) rfl lX8_27 (by first | assumption | rfl | decide) rfl ⟨rfl, by decide, by decide, by decide, rfl, rfl⟩ ?_
      by_cases e1 : k < f 364
      · rw [if_pos e1] at he
        refine tf_go hx ftX8_pausesWith 1 [false] 20 [some (.ref 120), some (.int (nI l)), some (.int (nI r)), some (.int (nI t)), some (.int (nI n)), some (.int (nI k)), none, none, none] [] S rfl ⟨by decide, by decide, rfl⟩ ⟨trivial, (tf_leF (a := (f 364)) (b := k) rfl rfl (by have := hb 364; omega) (by have := hb 364; omega) (by have := hb 364; omega))⟩ ?_
        refine tf_go hx ftX8_pausesWith 2 [] 23 [some (.ref 120), some (.int (nI l)), some (.int (nI r)), some (.int (nI t)), some (.int (nI n)), some (.int (nI k)), none, none, none] [.int (nI k), .ref 120] S rfl ⟨by decide, by decide, rfl⟩ trivial ?_
        refine tf_cV hx ftX8_pausesWith (nx := 26) (As := [.int (nI k)]) (rest := []) (st2 := [.int (nI (tf_ah f b k))]) (t_acheAt hK hg hb h1 e1) rfl lX8_84 (by first | assumption | rfl | decide) rfl ⟨rfl, by decide, by decide, by decide, rfl, rfl⟩ ?_
        refine tf_go hx ftX8_pausesWith 1 [] 28 [some (.ref 120), some (.int (nI l)), some (.int (nI r)), some (.int (nI t)), some (.int (nI n)), some (.int (nI k)), some (.int (nI (tf_ah f b k))), none, none] [] S rfl ⟨by decide, by decide, rfl⟩ trivial ?_
        generalize tf_ah f b k = a at *
        refine tf_go hx ftX8_pausesWith 6 [] 36 [some (.ref 120), some (.int (nI l)), some (.int (nI r)), some (.int (nI t)), some (.int (nI n)), some (.int (nI k)), some (.int (nI a)), some (.int (((nI t) + (nI a)) - (nI l))), none] [] S rfl ⟨by decide, by decide, rfl⟩ trivial ?_
        rw [show ((nI t) + (nI a)) = nI (t + a) from (tf_add (a := t) (b := a) rfl rfl)]
        refine tf_go hx ftX8_pausesWith 2 [] 39 [some (.ref 120), some (.int (nI l)), some (.int (nI r)), some (.int (nI t)), some (.int (nI n)), some (.int (nI k)), some (.int (nI a)), some (.int ((nI (t + a)) - (nI l))), none] [.int (nI l), .int (nI a)] S rfl ⟨by decide, by decide, rfl⟩ trivial ?_
        by_cases e2 : l < a
        · rw [if_pos e2] at he
          refine tf_go hx ftX8_pausesWith 2 [false] 44 [some (.ref 120), some (.int (nI l)), some (.int (nI r)), some (.int (nI t)), some (.int (nI n)), some (.int (nI k)), some (.int (nI a)), some (.int ((nI (t + a)) - (nI l))), none] [.int (-9)] S rfl ⟨by decide, by decide, rfl⟩ ⟨trivial, (tf_leF (a := a) (b := l) rfl rfl (by omega) (by omega) (by omega))⟩ ?_
          exact tf_ret ftX8_pausesWith hR rfl ⟨by decide, by decide⟩ rfl rfl (by rw [← he]; rfl)
        · rw [if_neg e2] at he
          refine tf_go hx ftX8_pausesWith 1 [true] 45 [some (.ref 120), some (.int (nI l)), some (.int (nI r)), some (.int (nI t)), some (.int (nI n)), some (.int (nI k)), some (.int (nI a)), some (.int ((nI (t + a)) - (nI l))), none] [] S rfl ⟨by decide, by decide, rfl⟩ ⟨trivial, (tf_leT (a := a) (b := l) rfl rfl (by omega) (by omega) (by omega))⟩ ?_
          refine tf_go hx ftX8_pausesWith 1 [] 47 [some (.ref 120), some (.int (nI l)), some (.int (nI r)), some (.int (nI t)), some (.int (nI n)), some (.int (nI k)), some (.int (nI a)), some (.int ((nI (t + a)) - (nI l))), none] [.int ((nI (t + a)) - (nI l))] S rfl ⟨by decide, by decide, rfl⟩ trivial ?_
          by_cases e3 : l < t + a
          · have ov : nI (t + a) - nI l = nI (t + a - l) := pk_sub (by omega)
            rw [ov]
            refine tf_go hx ftX8_pausesWith 1 [false] 50 [some (.ref 120), some (.int (nI l)), some (.int (nI r)), some (.int (nI t)), some (.int (nI n)), some (.int (nI k)), some (.int (nI a)), some (.int (nI (t + a - l))), none] [] S rfl ⟨by decide, by decide, rfl⟩ ⟨trivial, (tf_leF (a := (t + a - l)) (b := 0) rfl (rfl : (0 : Int32) = nI 0) (by omega) (by omega) (by omega))⟩ ?_
            refine tf_go hx ftX8_pausesWith 2 [] 52 [some (.ref 120), some (.int (nI l)), some (.int (nI r)), some (.int (nI t)), some (.int (nI n)), some (.int (nI k)), some (.int (nI a)), some (.int (nI (t + a - l))), none] [.int 1, .int (nI r)] S rfl ⟨by decide, by decide, rfl⟩ trivial ?_
            by_cases e4 : r < 1
            · rw [if_pos ⟨e3, by omega⟩] at he
              refine tf_go hx ftX8_pausesWith 2 [false] 57 [some (.ref 120), some (.int (nI l)), some (.int (nI r)), some (.int (nI t)), some (.int (nI n)), some (.int (nI k)), some (.int (nI a)), some (.int (nI (t + a - l))), none] [.int (-9)] S rfl ⟨by decide, by decide, rfl⟩ ⟨trivial, (tf_leF (a := 1) (b := r) (rfl : (1 : Int32) = nI 1) rfl (by omega) (by omega) (by omega))⟩ ?_
              exact tf_ret ftX8_pausesWith hR rfl ⟨by decide, by decide⟩ rfl rfl (by rw [← he]; rfl)
            · rw [if_neg (fun h => e4 (by have := h.2; omega))] at he
              refine tf_go hx ftX8_pausesWith 1 [true] 58 [some (.ref 120), some (.int (nI l)), some (.int (nI r)), some (.int (nI t)), some (.int (nI n)), some (.int (nI k)), some (.int (nI a)), some (.int (nI (t + a - l))), none] [] S rfl ⟨by decide, by decide, rfl⟩ ⟨trivial, (tf_leT (a := 1) (b := r) (rfl : (1 : Int32) = nI 1) rfl (by omega) (by omega) (by omega))⟩ ?_
              have pn := tf_pi_n (a := a) (l := l) (r := r) (by omega) (by omega) (t + 1) t n (by omega)
              rw [if_pos e3] at pn
              rw [pn] at he
              refine tf_go hx ftX8_pausesWith 5 [] 64 [some (.ref 120), some (.int (nI l)), some (.int (nI r)), some (.int (nI t)), some (.int (nI n)), some (.int (nI k)), some (.int (nI a)), some (.int (nI (t + a - l))), none] [.int (((nI (t + a - l)) + (nI r)) - 1)] S rfl ⟨by decide, by decide, rfl⟩ trivial ?_
              rw [show (((nI (t + a - l)) + (nI r)) - 1) = nI (((t + a - l) + r) - 1) from (tf_sub (a := ((t + a - l) + r)) (b := 1) (tf_add (a := (t + a - l)) (b := r) rfl rfl) (rfl : (1 : Int32) = nI 1) (by omega))]
              refine tf_go hx ftX8_pausesWith 3 [] 68 [some (.ref 120), some (.int (nI l)), some (.int (nI r)), some (.int (nI t)), some (.int (nI n)), some (.int (nI k)), some (.int (nI a)), some (.int (nI (t + a - l))), some (.int ((nI (((t + a - l) + r) - 1)) / (nI r)))] [] S rfl ⟨by decide, by decide, rfl⟩ ⟨trivial, (tf_eqF (a := r) (b := 0) rfl rfl (by omega) (by omega) (by omega))⟩ ?_
              rw [show ((nI (((t + a - l) + r) - 1)) / (nI r)) = nI ((((t + a - l) + r) - 1) / r) from (tf_div (a := (((t + a - l) + r) - 1)) (d := r) rfl rfl (by omega) (by omega) (by omega))]
              have ce : (t + a - l + r - 1) / r = (t + a - l - 1) / r + 1 := by rw [show t + a - l + r - 1 = t + a - l - 1 + r by omega, Nat.add_div_right _ (by omega)]
              have c3 : (t + a - l - 1) / r + 1 ≤ 3 := by have := Nat.div_le_self (t + a - l - 1) r; omega
              have dm := Nat.div_add_mod (t + a - l - 1) r
              have ml := Nat.mod_lt (t + a - l - 1) (show r > 0 by omega)
              have mm : ((t + a - l - 1) / r + 1) * r = r * ((t + a - l - 1) / r) + r := by rw [Nat.succ_mul, Nat.mul_comm]
              have ht9 : t - ((t + a - l - 1) / r + 1) * r + a ≤ l := by rw [mm]; generalize r * ((t + a - l - 1) / r) = z at *; omega
              clear dm ml mm
              rw [ce]
              generalize ((t + a - l - 1) / r + 1) = c at *
              have cr := Nat.mul_le_mul c3 hr9
              refine tf_go hx ftX8_pausesWith 4 [] 75 [some (.ref 120), some (.int (nI l)), some (.int (nI r)), some (.int (nI t)), some (.int ((nI n) + (nI c))), some (.int (nI k)), some (.int (nI a)), some (.int (nI (t + a - l))), some (.int (nI c))] [] S rfl ⟨by decide, by decide, rfl⟩ trivial ?_
              rw [show ((nI n) + (nI c)) = nI (n + c) from (tf_add (a := n) (b := c) rfl rfl)]
              refine tf_go hx ftX8_pausesWith 5 [] 81 [some (.ref 120), some (.int (nI l)), some (.int (nI r)), some (.int (nI t)), some (.int (nI (n + c))), some (.int (nI k)), some (.int (nI a)), some (.int (nI (t + a - l))), some (.int (nI c))] [.int ((nI c) * (nI r)), .int (nI t), .int 0] S rfl ⟨by decide, by decide, rfl⟩ trivial ?_
              rw [show ((nI c) * (nI r)) = nI (c * r) from (tf_mul (a := c) (b := r) rfl rfl)]
              refine tf_go hx ftX8_pausesWith 1 [] 82 [some (.ref 120), some (.int (nI l)), some (.int (nI r)), some (.int (nI t)), some (.int (nI (n + c))), some (.int (nI k)), some (.int (nI a)), some (.int (nI (t + a - l))), some (.int (nI c))] [.int ((nI t) - (nI (c * r))), .int 0] S rfl ⟨by decide, by decide, rfl⟩ trivial ?_
              have mx : (if (0 : Int32) < nI t - nI (c * r) then nI t - nI (c * r) else 0) = nI (t - c * r) := by
                by_cases q : t ≤ c * r
                · rw [if_neg (tf_nps q (by omega)), show t - c * r = 0 by omega]; rfl
                · rw [pk_sub (show c * r ≤ t by omega), if_pos (show (0 : Int32) < nI (t - c * r) from tf_ltT (a := 0) (b := t - c * r) rfl rfl (by omega) (by omega) (by omega))]
              refine tf_go hx ftX8_pausesWith 1 [] 85 [some (.ref 120), some (.int (nI l)), some (.int (nI r)), some (.int (nI t)), some (.int (nI (n + c))), some (.int (nI k)), some (.int (nI a)), some (.int (nI (t + a - l))), some (.int (nI c))] [.int (if 0 < ((nI t) - (nI (c * r))) then ((nI t) - (nI (c * r))) else 0)] S rfl ⟨by decide, by decide, rfl⟩ trivial ?_
              rw [mx]
              refine tf_go hx ftX8_pausesWith 1 [] 86 [some (.ref 120), some (.int (nI l)), some (.int (nI r)), some (.int (nI (t - c * r))), some (.int (nI (n + c))), some (.int (nI k)), some (.int (nI a)), some (.int (nI (t + a - l))), some (.int (nI c))] [] S rfl ⟨by decide, by decide, rfl⟩ trivial ?_
              refine tf_go hx ftX8_pausesWith 4 [] 91 [some (.ref 120), some (.int (nI l)), some (.int (nI r)), some (.int ((nI (t - c * r)) + (nI a))), some (.int (nI (n + c))), some (.int (nI k)), some (.int (nI a)), some (.int (nI (t + a - l))), some (.int (nI c))] [] S rfl ⟨by decide, by decide, rfl⟩ trivial ?_
              rw [show ((nI (t - c * r)) + (nI a)) = nI ((t - c * r) + a) from (tf_add (a := (t - c * r)) (b := a) rfl rfl)]
              refine tf_go hx ftX8_pausesWith 2 [] 8 [some (.ref 120), some (.int (nI l)), some (.int (nI r)), some (.int (nI ((t - c * r) + a))), some (.int (nI (n + c))), some (.int ((nI k) + 1)), some (.int (nI a)), some (.int (nI (t + a - l))), some (.int (nI c))] [] S rfl ⟨by decide, by decide, rfl⟩ trivial ?_
              rw [show ((nI k) + 1) = nI (k + 1) from (tf_add (a := k) (b := 1) rfl (rfl : (1 : Int32) = nI 1))]
              refine tf_fgt [some (.ref 120), some (.int (nI l)), some (.int (nI r)), some (.int (nI (t - c * r + a))), some (.int (nI (n + c))), some (.int (nI (k + 1))), none, none, none] (by simp [tf_lss]) ?_
              exact ih (k + 1) (t - c * r + a) (n + c) (by omega) he (by omega) ht9 (by omega)
          · refine tf_go hx ftX8_pausesWith 1 [true] 86 [some (.ref 120), some (.int (nI l)), some (.int (nI r)), some (.int (nI t)), some (.int (nI n)), some (.int (nI k)), some (.int (nI a)), some (.int ((nI (t + a)) - (nI l))), none] [] S rfl ⟨by decide, by decide, rfl⟩ ⟨trivial, (Int32.not_lt.mp (tf_nps (by omega) (by omega)))⟩ ?_
            rw [if_neg (fun h => e3 h.1)] at he
            have pn : tf_pi a l r (t + 1) t n = (t, n) := by rw [tf_pi_s, if_neg e3]
            rw [pn] at he
            refine tf_go hx ftX8_pausesWith 4 [] 91 [some (.ref 120), some (.int (nI l)), some (.int (nI r)), some (.int ((nI t) + (nI a))), some (.int (nI n)), some (.int (nI k)), some (.int (nI a)), some (.int ((nI (t + a)) - (nI l))), none] [] S rfl ⟨by decide, by decide, rfl⟩ trivial ?_
            rw [show ((nI t) + (nI a)) = nI (t + a) from (tf_add (a := t) (b := a) rfl rfl)]
            refine tf_go hx ftX8_pausesWith 2 [] 8 [some (.ref 120), some (.int (nI l)), some (.int (nI r)), some (.int (nI (t + a))), some (.int (nI n)), some (.int ((nI k) + 1)), some (.int (nI a)), some (.int ((nI (t + a)) - (nI l))), none] [] S rfl ⟨by decide, by decide, rfl⟩ trivial ?_
            rw [show ((nI k) + 1) = nI (k + 1) from (tf_add (a := k) (b := 1) rfl (rfl : (1 : Int32) = nI 1))]
            refine tf_fgt [some (.ref 120), some (.int (nI l)), some (.int (nI r)), some (.int (nI (t + a))), some (.int (nI n)), some (.int (nI (k + 1))), none, none, none] (by simp [tf_lss]) ?_
            exact ih (k + 1) (t + a) n (by omega) he (by omega) (by omega) (by omega)
      · rw [if_neg e1] at he
        refine tf_go hx ftX8_pausesWith 2 [true] 99 [some (.ref 120), some (.int (nI l)), some (.int (nI r)), some (.int (nI t)), some (.int (nI n)), some (.int (nI k)), none, none, none] [.int (nI n)] S rfl ⟨by decide, by decide, rfl⟩ ⟨trivial, (tf_leT (a := (f 364)) (b := k) rfl rfl (by have := hb 364; omega) (by have := hb 364; omega) (by have := hb 364; omega))⟩ ?_
        exact tf_ret ftX8_pausesWith hR rfl ⟨by decide, by decide⟩ rfl rfl (by rw [← he, tf_on_y (by omega)]; rfl)
  exact loop 41 0 0 0 rfl rfl (by omega) (by omega) (by omega)

