theorem tf_ct_z {p : Nat → Nat} {k : Nat} (h : p k = 0) : tf_ct p (k + 1) = tf_ct p k := by
  funext j
  unfold tf_ct
  by_cases h1 : j < k
  · rw [if_pos h1, if_pos (by omega)]
  · rw [if_neg h1]
    by_cases h2 : j < k + 1
    · rw [if_pos h2, show j = k by omega, h]
    · rw [if_neg h2]
theorem tf_bp_n {S : tf_Sg} {a c x : Nat} {p : Nat → Nat} (h1 : x ≠ a) (h2 : x ≠ c) : tf_bp S a c p x = S x := by
  funext j
  show (if x = a ∧ j < 30 then _ else if x = c ∧ j < 26 then _ else S x j) = S x j
  rw [if_neg (show ¬ (x = a ∧ j < 30) from fun q => h1 q.1), if_neg (show ¬ (x = c ∧ j < 26) from fun q => h2 q.1)]
def tf_ptb (T : Nat → Nat) : Nat → Nat := fun k => tf_bv (T (k + k / 10))

set_option maxHeartbeats 1000000 in
theorem b_readFrom {G : tf_G} {S : tf_Sg} {o q cap n : Nat} {T : Nat → Nat} (hb : tf_bd G o) (hse : tf_se G q cap) (hn : S q 1 = nI n) (hle : n ≤ cap) (h32 : 32 ≤ n) (qa : q ≠ tf_rf G o 0) (qc : q ≠ tf_rf G o 1) (na : tf_rf G q 0 ≠ tf_rf G o 0) (nc : tf_rf G q 0 ≠ tf_rf G o 1) (hs : ∀ j, S (tf_rf G q 0) j = nI (T j)) (hT : ∀ j, T j < 256) (fv : ∀ k, k < 30 → T (k + k / 10) = 46 ∨ (97 ≤ T (k + k / 10) ∧ T (k + k / 10) ≤ 122)) (hd : ∀ i j, i < j → j < 30 → tf_ptb T j ≠ 0 → tf_ptb T i ≠ tf_ptb T j) : tf_Fn mX0_readFrom 3 0 0 G S [.ref o, .ref q] G (tf_bp S (tf_rf G o 0) (tf_rf G o 1) (tf_ptb T)) (some (.int (nI (tf_bn T 30)))) := by
  obtain ⟨b1, ⟨r0, t0, n0⟩, ⟨r1, t1, n1⟩, nn⟩ := id hb
  have b2 := hse.1
  have c48 := hse.2.2.2.2
  refine tf_Fn_of (own := RX0) false ⟨by decide, rfl, by decide⟩ (Nat.le_of_ble_eq_true rfl) trivial (fun x hx hR => ?_)
  show tf_K x 0 0 G S 0 [some (.ref o), some (.ref q), none, none, none] []
  refine tf_go hx ftX0_readFrom 1 [] 1 [some (.ref o), some (.ref q), none, none, none] [.ref o] S rfl ⟨by decide, by decide, rfl⟩ trivial ?_
  refine tf_cV hx ftX0_readFrom (nx := 4) (As := []) (rest := []) (st2 := []) (b_empty hb) rfl lX0_18 (by first | assumption | rfl | decide) rfl ⟨rfl, by decide, by decide, by decide, rfl, rfl⟩ ?_
  refine tf_go hx ftX0_readFrom 4 [] 8 [some (.ref o), some (.ref q), some (.int 0), some (.int 0), none] [] (tf_bp S (tf_rf G o 0) (tf_rf G o 1) (fun _ => 0)) rfl ⟨by decide, by decide, rfl⟩ trivial ?_
  refine tf_fgt [some (.ref o), some (.ref q), some (.int 0), some (.int 0), none] (by simp [tf_lss]) ?_
  rw [← tf_ct_0 (p := (tf_ptb T))]
  have loop : ∀ (m k : Nat), k + m = 30 → tf_K x 0 0 G (tf_bp S (tf_rf G o 0) (tf_rf G o 1) (tf_ct (tf_ptb T) k)) 8 [some (.ref o), some (.ref q), some (.int (nI (tf_bn T k))), some (.int (nI k)), none] [] := by
    intro m
    induction m with
    | zero =>
      intro k hk
      refine tf_go hx ftX0_readFrom 2 [] 11 [some (.ref o), some (.ref q), some (.int (nI (tf_bn T k))), some (.int (nI k)), none] [.int 30, .int (nI k)] (tf_bp S (tf_rf G o 0) (tf_rf G o 1) (tf_ct (tf_ptb T) k)) rfl ⟨by decide, by decide, rfl⟩ trivial ?_
      refine tf_go hx ftX0_readFrom 1 [true] 53 [some (.ref o), some (.ref q), some (.int (nI (tf_bn T k))), some (.int (nI k)), none] [] (tf_bp S (tf_rf G o 0) (tf_rf G o 1) (tf_ct (tf_ptb T) k)) rfl ⟨by decide, by decide, rfl⟩ ⟨trivial, (tf_leT (a := 30) (b := k) (rfl : (30 : Int32) = nI 30) rfl (by omega) (by omega) (by omega))⟩ ?_
      refine tf_go hx ftX0_readFrom 1 [] 54 [some (.ref o), some (.ref q), some (.int (nI (tf_bn T k))), some (.int (nI k)), none] [.int (nI (tf_bn T k))] (tf_bp S (tf_rf G o 0) (tf_rf G o 1) (tf_ct (tf_ptb T) k)) rfl ⟨by decide, by decide, rfl⟩ trivial ?_
      exact tf_ret ftX0_readFrom hR rfl ⟨by decide, by decide⟩ rfl (by rw [show k = 30 by omega]; exact tf_bp_ct) (by rw [show k = 30 by omega]; rfl)
    | succ m ih =>
      intro k hk
      refine tf_go hx ftX0_readFrom 2 [] 11 [some (.ref o), some (.ref q), some (.int (nI (tf_bn T k))), some (.int (nI k)), none] [.int 30, .int (nI k)] (tf_bp S (tf_rf G o 0) (tf_rf G o 1) (tf_ct (tf_ptb T) k)) rfl ⟨by decide, by decide, rfl⟩ trivial ?_
      refine tf_go hx ftX0_readFrom 1 [false] 14 [some (.ref o), some (.ref q), some (.int (nI (tf_bn T k))), some (.int (nI k)), none] [] (tf_bp S (tf_rf G o 0) (tf_rf G o 1) (tf_ct (tf_ptb T) k)) rfl ⟨by decide, by decide, rfl⟩ ⟨trivial, (tf_leF (a := 30) (b := k) (rfl : (30 : Int32) = nI 30) rfl (by omega) (by omega) (by omega))⟩ ?_
      refine tf_go hx ftX0_readFrom 6 [] 21 [some (.ref o), some (.ref q), some (.int (nI (tf_bn T k))), some (.int (nI k)), none] [.int ((nI k) + ((nI k) / 10)), .ref q] (tf_bp S (tf_rf G o 0) (tf_rf G o 1) (tf_ct (tf_ptb T) k)) rfl ⟨by decide, by decide, rfl⟩ ⟨trivial, (by decide)⟩ ?_
      rw [show ((nI k) + ((nI k) / 10)) = nI (k + (k / 10)) from (tf_add (a := k) (b := (k / 10)) rfl (tf_div (a := k) (d := 10) rfl (rfl : (10 : Int32) = nI 10) (by omega) (by omega) (by omega)))]
      have c1 := fv k (by omega)
      have c3 := hT (k + k / 10)
      have at1 : tf_atv G (tf_bp S (tf_rf G o 0) (tf_rf G o 1) (tf_ct (tf_ptb T) k)) q (nI (k + k / 10)) = nI (T (k + k / 10)) := by rw [tf_atv_in (n := n) (by rw [tf_bp_n qa qc]; exact hn) (by omega) (by omega), tf_bp_n na nc]; exact hs (k + k / 10)
      refine tf_cV hx ftX0_readFrom (nx := 24) (As := [.int (nI (k + k / 10))]) (rest := []) (st2 := [.int (nI (T (k + k / 10)))]) ((by have h := c_at (S := (tf_bp S (tf_rf G o 0) (tf_rf G o 1) (tf_ct (tf_ptb T) k))) (nI (k + k / 10)) hse (by rw [tf_bp_n qa qc]; exact hn) hle; rw [at1] at h; exact h)) rfl lX0_25 (by first | assumption | rfl | decide) rfl ⟨rfl, by decide, by decide, by decide, rfl, rfl⟩ ?_
      refine tf_go hx ftX0_readFrom 2 [] 28 [some (.ref o), some (.ref q), some (.int (nI (tf_bn T k))), some (.int (nI k)), some (.int (nI (T (k + k / 10))))] [.int (nI (T (k + k / 10)))] (tf_bp S (tf_rf G o 0) (tf_rf G o 1) (tf_ct (tf_ptb T) k)) rfl ⟨by decide, by decide, rfl⟩ trivial ?_
      refine tf_cS hx ftX0_readFrom (nx := 31) (As := [.int (nI (T (k + k / 10)))]) (rest := []) (st2 := [.int (if tf_lt (T (k + k / 10)) = true then 1 else 0)]) ((by have h := c_isLetter (G := G) (S := (tf_bp S (tf_rf G o 0) (tf_rf G o 1) (tf_ct (tf_ptb T) k))) (nI (T (k + k / 10))); rw [tf_lt_i c3] at h; exact h)) rfl lX0_31 rfl ⟨rfl, by decide, by decide, by decide, rfl, rfl⟩ ?_
      by_cases e1 : T (k + k / 10) = 46
      · have p0 : tf_ptb T k = 0 := by unfold tf_ptb tf_bv; rw [if_pos e1]
        rw [if_neg (by rw [e1]; decide)]
        refine tf_go hx ftX0_readFrom 1 [true] 47 [some (.ref o), some (.ref q), some (.int (nI (tf_bn T k))), some (.int (nI k)), some (.int (nI (T (k + k / 10))))] [] (tf_bp S (tf_rf G o 0) (tf_rf G o 1) (tf_ct (tf_ptb T) k)) rfl ⟨by decide, by decide, rfl⟩ ⟨trivial, rfl⟩ ?_
        rw [← tf_ct_z p0]
        refine tf_go hx ftX0_readFrom 2 [] 8 [some (.ref o), some (.ref q), some (.int (nI (tf_bn T k))), some (.int ((nI k) + 1)), some (.int (nI (T (k + k / 10))))] [] (tf_bp S (tf_rf G o 0) (tf_rf G o 1) (tf_ct (tf_ptb T) (k + 1))) rfl ⟨by decide, by decide, rfl⟩ trivial ?_
        rw [show ((nI k) + 1) = nI (k + 1) from (tf_add (a := k) (b := 1) rfl (rfl : (1 : Int32) = nI 1))]
        have bn : tf_bn T (k + 1) = tf_bn T k := by rw [tf_bn_s, if_pos e1, Nat.add_zero]
        rw [← bn]
        refine tf_fgt [some (.ref o), some (.ref q), some (.int (nI (tf_bn T (k + 1)))), some (.int (nI (k + 1))), none] (by simp [tf_lss]) ?_
        exact ih (k + 1) (by omega)
      · have e2 : 97 ≤ T (k + k / 10) ∧ T (k + k / 10) ≤ 122 := by rcases c1 with h | h; exact absurd h e1; exact h
        obtain ⟨e3, e4⟩ := e2
        have p1 : tf_ptb T k = T (k + k / 10) - 97 + 1 := by unfold tf_ptb tf_bv; rw [if_neg e1]
        rw [if_pos (by unfold tf_lt; simp; omega)]
        refine tf_go hx ftX0_readFrom 1 [false] 34 [some (.ref o), some (.ref q), some (.int (nI (tf_bn T k))), some (.int (nI k)), some (.int (nI (T (k + k / 10))))] [] (tf_bp S (tf_rf G o 0) (tf_rf G o 1) (tf_ct (tf_ptb T) k)) rfl ⟨by decide, by decide, rfl⟩ ⟨trivial, (by decide)⟩ ?_
        refine tf_go hx ftX0_readFrom 5 [] 41 [some (.ref o), some (.ref q), some (.int (nI (tf_bn T k))), some (.int (nI k)), some (.int (nI (T (k + k / 10))))] [.int ((nI (T (k + k / 10))) - 97), .int (nI k), .ref o] (tf_bp S (tf_rf G o 0) (tf_rf G o 1) (tf_ct (tf_ptb T) k)) rfl ⟨by decide, by decide, rfl⟩ trivial ?_
        rw [show ((nI (T (k + k / 10))) - 97) = nI ((T (k + k / 10)) - 97) from (tf_sub (a := (T (k + k / 10))) (b := 97) rfl (rfl : (97 : Int32) = nI 97) (by omega))]
        refine tf_cV hx ftX0_readFrom (nx := 44) (As := [.int (nI k), .int (nI ((T (k + k / 10)) - 97))]) (rest := []) (st2 := []) ((by have h := b_lay1 (S := (tf_bp S (tf_rf G o 0) (tf_rf G o 1) (tf_ct (tf_ptb T) k))) (l := T (k + k / 10) - 97) hb (show k < 30 by omega) (by omega); rw [tf_bp_c2 nn (by omega) (by omega) p1 (fun j hj => by rw [← p1]; exact hd j k hj (by omega) (by omega))] at h; exact h)) rfl lX0_36 (by first | assumption | rfl | decide) rfl ⟨rfl, by decide, by decide, by decide, rfl, rfl⟩ ?_
        refine tf_go hx ftX0_readFrom 3 [] 8 [some (.ref o), some (.ref q), some (.int ((nI (tf_bn T k)) + 1)), some (.int ((nI k) + 1)), some (.int (nI (T (k + k / 10))))] [] (tf_bp S (tf_rf G o 0) (tf_rf G o 1) (tf_ct (tf_ptb T) (k + 1))) rfl ⟨by decide, by decide, rfl⟩ trivial ?_
        rw [show ((nI (tf_bn T k)) + 1) = nI ((tf_bn T k) + 1) from (tf_add (a := (tf_bn T k)) (b := 1) rfl (rfl : (1 : Int32) = nI 1))]
        rw [show ((nI k) + 1) = nI (k + 1) from (tf_add (a := k) (b := 1) rfl (rfl : (1 : Int32) = nI 1))]
        have bn : tf_bn T (k + 1) = tf_bn T k + 1 := by rw [tf_bn_s, if_neg e1]
        refine tf_fgt [some (.ref o), some (.ref q), some (.int (nI (tf_bn T k + 1))), some (.int (nI (k + 1))), none] (by simp [tf_lss]) ?_
        rw [← bn]
        exact ih (k + 1) (by omega)
  exact loop 30 0 rfl

