/-- a board read keeps the row good -/
theorem tf_bw_gd {A : tf_A} (hA : tf_okA A) (e : ¬ tf_bf A.2.1 A.2.2.1 < 49) {b : Nat} (hb : b < 4) : tf_gd (tf_bw A.1 A.2.1 b 30) := by
  obtain ⟨hg, -, -, -, -, -⟩ := hA
  obtain ⟨n32, bb⟩ := tf_bf_no e
  have u : ∀ k, (k < 30 * b ∨ 30 * b + 30 ≤ k) → tf_bw A.1 A.2.1 b 30 k = A.1 k := fun k hk => if_neg (by omega)
  have w : ∀ k, k < 30 → tf_bw A.1 A.2.1 b 30 (30 * b + k) = tf_ptb A.2.1 k := fun k hk => by unfold tf_bw tf_ptb; rw [if_pos (by omega), show 30 * b + k - 30 * b = k by omega]
  have p26 : ∀ k, k < 30 → tf_ptb A.2.1 k ≤ 26 := fun k hk => by
    unfold tf_ptb tf_bv
    split
    · omega
    · rcases tf_bb_v (bb (k + k / 10) (by omega)) (by omega) with h | h <;> omega
  obtain ⟨⟨g1, g2, g3, g4⟩, g5, g6, g7, g8, g9, g10, g11⟩ := hg
  refine ⟨⟨by rw [u _ (by omega)]; exact g1, by rw [u _ (by omega)]; exact g2, by rw [u _ (by omega)]; exact g3, by rw [u _ (by omega)]; exact g4⟩, fun z hz => ?_, fun i hi => ?_, fun i hi => ?_, fun z hz j hj => ?_, fun i hi => by rw [u _ (by omega)]; exact g9 i hi, fun k hk => ?_, fun c hc k j hk hj h0 h1 => ?_⟩
  · rw [u _ (by omega)] at hz ⊢; exact g5 z hz
  · rw [u _ (by omega)] at hi ⊢; exact g6 i hi
  · rw [u _ (by omega)] at hi ⊢; exact g7 i hi
  · rw [u _ (by omega)] at hz; rw [u _ (by omega)] at hj; rw [u _ (by omega)]; exact g8 z hz j hj
  · by_cases q : k < 30 * b ∨ 30 * b + 30 ≤ k
    · rw [u _ q]; exact g10 k hk
    · rw [show k = 30 * b + (k - 30 * b) by omega, w _ (by omega)]; exact p26 _ (by omega)
  · by_cases q : c = b
    · subst q
      rw [w k hk, w j hj] at h0
      rw [w k hk] at h1
      rcases Nat.lt_trichotomy k j with h | h | h
      · exact absurd h0 (tf_ptb_d e k j h hj (by omega))
      · exact h
      · exact absurd h0.symm (tf_ptb_d e j k h hk h1)
    · rw [u _ (by omega), u _ (by omega)] at h0
      rw [u _ (by omega)] at h1
      exact g11 c hc k j hk hj h0 h1

set_option maxHeartbeats 2000000 in
theorem c_board {N : Nat} {S : tf_Sg} {A : tf_A} (b : Int32) (hA : tf_okA A) (hC : tf_cs S A)  : tf_cpq mX10_board 4 N S [.ref 4, .int b] (s_board A b) := by
  obtain ⟨hg, hb, hA3, hA4, hA5, hA6⟩ := id hA
  obtain ⟨h1j, hS, hK5, ⟨hT1, hT2⟩, hRf, hIm⟩ := id hC
  obtain ⟨⟨g1, g2, g3, g4⟩, g5, g6, g7, g8, g9, g10, g11⟩ := id hg
  unfold s_board
  by_cases c0 : ¬ b < 0 ∧ ¬ 4 ≤ b
  · rw [if_pos c0]
    obtain ⟨b1, b1_lt, b1_eq, b1_cl⟩ := tf_ok_nI (N := 4) (show tf_ok b _ from c0) rfl (by decide)
    try rw [b1_cl]
    subst b1_eq
    by_cases e1 : tf_bf A.2.1 A.2.2.1 < 49
    · rw [if_pos e1]
      refine ⟨tf_set S 109 1 0, tf_Fn_of (own := RX10) false ⟨by decide, rfl, by decide⟩ (Nat.le_of_ble_eq_true rfl) trivial (fun x hx hR => ?_), cs_t hA hC 0, fc_set (by omega)⟩
      show tf_K x 0 0 (tf_GG N) S 0 [some (.ref 4), some (.int (nI b1)), none, none] []
      refine tf_go hx ftX10_board 1 [] 1 [some (.ref 4), some (.int (nI b1)), none, none] [.int (nI b1)] S rfl ⟨by decide, by decide, rfl⟩ trivial ?_
      refine tf_cS hx ftX10_board (nx := 4) (As := [.int (nI b1)]) (rest := []) (st2 := [.int (if ¬ (nI b1) < 0 ∧ ¬ 4 ≤ (nI b1) then 0 else 1)]) (c_noBoard (nI b1)) rfl lX10_61 rfl ⟨rfl, by decide, by decide, by decide, rfl, rfl⟩ ?_
      rw [if_pos c0]
      refine tf_go hx ftX10_board 1 [true] 13 [some (.ref 4), some (.int (nI b1)), none, none] [] S rfl ⟨by decide, by decide, rfl⟩ ⟨trivial, (by decide)⟩ ?_
      refine tf_go hx ftX10_board 2 [] 17 [some (.ref 4), some (.int (nI b1)), none, none] [.ref 109] S rfl ⟨by decide, by decide, rfl⟩ ⟨trivial, ⟨by first | assumption | rfl | decide | omega | exact Nat.succ_ne_zero _, by first | assumption | rfl | decide | omega | exact Nat.succ_ne_zero _⟩⟩ ?_
      refine tf_cS hx ftX10_board (nx := 20) (As := [.ref 109]) (rest := []) (st2 := [.int (tf_on 49 (tf_bf A.2.1 A.2.2.1))]) ((r_boardFault (cs_T (N := N) hA hC) hA4)) rfl lX10_65 rfl ⟨rfl, by decide, by decide, by decide, rfl, rfl⟩ ?_
      refine tf_go hx ftX10_board 1 [] 21 [some (.ref 4), some (.int (nI b1)), some (.int (tf_on 49 (tf_bf A.2.1 A.2.2.1))), none] [] S rfl ⟨by decide, by decide, rfl⟩ trivial ?_
      rw [tf_on_y e1]
      refine tf_go hx ftX10_board 1 [] 22 [some (.ref 4), some (.int (nI b1)), some (.int (nI (tf_bf A.2.1 A.2.2.1))), none] [.int (nI (tf_bf A.2.1 A.2.2.1))] S rfl ⟨by decide, by decide, rfl⟩ trivial ?_
      refine tf_go hx ftX10_board 1 [false] 25 [some (.ref 4), some (.int (nI b1)), some (.int (nI (tf_bf A.2.1 A.2.2.1))), none] [] S rfl ⟨by decide, by decide, rfl⟩ ⟨trivial, (tf_ltF (a := (tf_bf A.2.1 A.2.2.1)) (b := 0) rfl (rfl : (0 : Int32) = nI 0) (by have := hA4 A.2.2.1; omega) (by have := hA4 A.2.2.1; omega) (by have := hA4 A.2.2.1; omega))⟩ ?_
      refine tf_go hx ftX10_board 3 [] 29 [some (.ref 4), some (.int (nI b1)), some (.int (nI (tf_bf A.2.1 A.2.2.1))), none] [.int ((-20) - (nI (tf_bf A.2.1 A.2.2.1)))] S rfl ⟨by decide, by decide, rfl⟩ trivial ?_
      refine tf_go hx ftX10_board 1 [] 48 [some (.ref 4), some (.int (nI b1)), some (.int (nI (tf_bf A.2.1 A.2.2.1))), none] [.int ((-20) - (nI (tf_bf A.2.1 A.2.2.1)))] S rfl ⟨by decide, by decide, rfl⟩ trivial ?_
      refine tf_go hx ftX10_board 1 [] 49 [some (.ref 4), some (.int (nI b1)), some (.int (nI (tf_bf A.2.1 A.2.2.1))), some (.int ((-20) - (nI (tf_bf A.2.1 A.2.2.1))))] [] S rfl ⟨by decide, by decide, rfl⟩ trivial ?_
      refine tf_go hx ftX10_board 2 [] 53 [some (.ref 4), some (.int (nI b1)), some (.int (nI (tf_bf A.2.1 A.2.2.1))), some (.int ((-20) - (nI (tf_bf A.2.1 A.2.2.1))))] [.ref 109] S rfl ⟨by decide, by decide, rfl⟩ ⟨trivial, ⟨by first | assumption | rfl | decide | omega | exact Nat.succ_ne_zero _, by first | assumption | rfl | decide | omega | exact Nat.succ_ne_zero _⟩⟩ ?_
      refine tf_cV hx ftX10_board (nx := 56) (As := []) (rest := []) (st2 := []) (c_clear rfl) rfl lX10_80 (by first | assumption | rfl | decide) rfl ⟨rfl, by decide, by decide, by decide, rfl, rfl⟩ ?_
      refine tf_go hx ftX10_board 1 [] 57 [some (.ref 4), some (.int (nI b1)), some (.int (nI (tf_bf A.2.1 A.2.2.1))), some (.int ((-20) - (nI (tf_bf A.2.1 A.2.2.1))))] [.int ((-20) - (nI (tf_bf A.2.1 A.2.2.1)))] (tf_set S 109 1 0) rfl ⟨by decide, by decide, rfl⟩ trivial ?_
      exact tf_ret ftX10_board hR rfl ⟨by decide, by decide⟩ rfl rfl rfl
    · rw [if_neg e1]
      obtain ⟨n32, bb⟩ := tf_bf_no e1
      have fv : ∀ k, k < 30 → A.2.1 (k + k / 10) = 46 ∨ (97 ≤ A.2.1 (k + k / 10) ∧ A.2.1 (k + k / 10) ≤ 122) := fun k hk => by rcases tf_bb_v (bb (k + k / 10) (by omega)) (by omega) with h | h; exact Or.inl h; exact Or.inr ⟨h.1, h.2.1⟩
      have hst : tf_st (tf_bp S (8 + 3 * b1) (9 + 3 * b1) (tf_ptb A.2.1)) 5 (tf_bw A.1 A.2.1 b1 30) := st_board hS hg b1_lt (fun k hk => by unfold tf_bw tf_ptb; rw [if_pos (by omega), show 30 * b1 + k - 30 * b1 = k by omega]) (fun k hk => by unfold tf_bw; rw [if_neg (by omega)])
      have hcs : tf_cs (tf_set (tf_bp S (8 + 3 * b1) (9 + 3 * b1) (tf_ptb A.2.1)) 109 1 0) (tf_bw A.1 A.2.1 b1 30, A.2.1, 0, A.2.2.2) := cs_g hA hC (fun a ha => by rw [tf_set_n (by omega), tf_bp_n (by omega) (by omega)]) (tf_st_c hst (tf_bw_gd hA e1 b1_lt) (fun a h1 h2 => tf_set_n (by omega))) tf_set_s (fun j => by rw [tf_set_n (by decide), tf_bp_n (by omega) (by omega)]; exact hT2 j)
      refine ⟨tf_set (tf_bp S (8 + 3 * b1) (9 + 3 * b1) (tf_ptb A.2.1)) 109 1 0, tf_Fn_of (own := RX10) false ⟨by decide, rfl, by decide⟩ (Nat.le_of_ble_eq_true rfl) trivial (fun x hx hR => ?_), hcs, (fun a ha => by rw [tf_set_n (by omega), tf_bp_n (by omega) (by omega)])⟩
      show tf_K x 0 0 (tf_GG N) S 0 [some (.ref 4), some (.int (nI b1)), none, none] []
      refine tf_go hx ftX10_board 1 [] 1 [some (.ref 4), some (.int (nI b1)), none, none] [.int (nI b1)] S rfl ⟨by decide, by decide, rfl⟩ trivial ?_
      refine tf_cS hx ftX10_board (nx := 4) (As := [.int (nI b1)]) (rest := []) (st2 := [.int (if ¬ (nI b1) < 0 ∧ ¬ 4 ≤ (nI b1) then 0 else 1)]) (c_noBoard (nI b1)) rfl lX10_61 rfl ⟨rfl, by decide, by decide, by decide, rfl, rfl⟩ ?_
      rw [if_pos c0]
      refine tf_go hx ftX10_board 1 [true] 13 [some (.ref 4), some (.int (nI b1)), none, none] [] S rfl ⟨by decide, by decide, rfl⟩ ⟨trivial, (by decide)⟩ ?_
      refine tf_go hx ftX10_board 2 [] 17 [some (.ref 4), some (.int (nI b1)), none, none] [.ref 109] S rfl ⟨by decide, by decide, rfl⟩ ⟨trivial, ⟨by first | assumption | rfl | decide | omega | exact Nat.succ_ne_zero _, by first | assumption | rfl | decide | omega | exact Nat.succ_ne_zero _⟩⟩ ?_
      refine tf_cS hx ftX10_board (nx := 20) (As := [.ref 109]) (rest := []) (st2 := [.int (tf_on 49 (tf_bf A.2.1 A.2.2.1))]) ((r_boardFault (cs_T (N := N) hA hC) hA4)) rfl lX10_65 rfl ⟨rfl, by decide, by decide, by decide, rfl, rfl⟩ ?_
      refine tf_go hx ftX10_board 1 [] 21 [some (.ref 4), some (.int (nI b1)), some (.int (tf_on 49 (tf_bf A.2.1 A.2.2.1))), none] [] S rfl ⟨by decide, by decide, rfl⟩ trivial ?_
      rw [tf_on_n e1]
      refine tf_go hx ftX10_board 1 [] 22 [some (.ref 4), some (.int (nI b1)), some (.int (-9)), none] [.int (-9)] S rfl ⟨by decide, by decide, rfl⟩ trivial ?_
      refine tf_go hx ftX10_board 1 [true] 32 [some (.ref 4), some (.int (nI b1)), some (.int (-9)), none] [] S rfl ⟨by decide, by decide, rfl⟩ ⟨trivial, (by decide)⟩ ?_
      have ar : tf_rf (tf_GG N) 6 (Int32.toNatClampNeg (nI b1)) = 7 + 3 * b1 := by rw [tf_cl_nI (by omega)]; exact (bdn b1_lt).2.2.2
      have arn : tf_rf (tf_GG N) 6 (Int32.toNatClampNeg (nI b1)) ≠ 0 := by rw [ar]; omega
      refine tf_go hx ftX10_board 5 [] 41 [some (.ref 4), some (.int (nI b1)), some (.int (-9)), none] [.ref (tf_rf (tf_GG N) 6 (Int32.toNatClampNeg (nI b1)))] S rfl ⟨by decide, by decide, rfl⟩ ⟨⟨⟨trivial, ⟨by first | assumption | rfl | decide | omega | exact Nat.succ_ne_zero _, by first | assumption | rfl | decide | omega | exact Nat.succ_ne_zero _⟩⟩, ⟨by first | assumption | rfl | decide | omega | exact Nat.succ_ne_zero _, by first | assumption | rfl | decide | omega | exact Nat.succ_ne_zero _⟩⟩, ⟨by first | assumption | exact Or.inl rfl | exact Or.inr (Or.inl rfl) | exact Or.inr (Or.inr rfl) | omega, by exact tf_in (n := b1) (N := 4) rfl (by first | assumption | rfl) (by omega) (by decide), by first | assumption | rfl | decide | omega | exact Nat.succ_ne_zero _⟩⟩ ?_
      rw [ar]
      clear ar arn
      have tb : tf_tg (tf_GG N) (7 + 3 * b1) = 0 := (bdn b1_lt).1.1
      refine tf_go hx ftX10_board 2 [] 45 [some (.ref 4), some (.int (nI b1)), some (.int (-9)), none] [.ref 109, .ref (7 + 3 * b1)] S rfl ⟨by decide, by decide, rfl⟩ ⟨trivial, ⟨by first | assumption | rfl | decide | omega | exact Nat.succ_ne_zero _, by first | assumption | rfl | decide | omega | exact Nat.succ_ne_zero _⟩⟩ ?_
      refine tf_cV hx ftX10_board (nx := 48) (As := [.ref 109]) (rest := []) (st2 := [.int (nI (tf_bn A.2.1 30))]) ((by have h := b_readFrom (S := S) (bdn (N := N) b1_lt).1 se109 hT1 hA3 (by omega) (by rw [(bdn b1_lt).2.1]; omega) (by rw [(bdn b1_lt).2.2.1]; omega) (by rw [(bdn b1_lt).2.1]; show 110 ≠ _; omega) (by rw [(bdn b1_lt).2.2.1]; show 110 ≠ _; omega) hT2 hA4 fv (tf_ptb_d e1); rw [(bdn b1_lt).2.1, (bdn b1_lt).2.2.1] at h; exact h)) rfl lX10_75 (by first | assumption | rfl | decide) rfl ⟨rfl, by decide, by decide, by decide, rfl, rfl⟩ ?_
      refine tf_go hx ftX10_board 1 [] 49 [some (.ref 4), some (.int (nI b1)), some (.int (-9)), some (.int (nI (tf_bn A.2.1 30)))] [] (tf_bp S (8 + 3 * b1) (9 + 3 * b1) (tf_ptb A.2.1)) rfl ⟨by decide, by decide, rfl⟩ trivial ?_
      refine tf_go hx ftX10_board 2 [] 53 [some (.ref 4), some (.int (nI b1)), some (.int (-9)), some (.int (nI (tf_bn A.2.1 30)))] [.ref 109] (tf_bp S (8 + 3 * b1) (9 + 3 * b1) (tf_ptb A.2.1)) rfl ⟨by decide, by decide, rfl⟩ ⟨trivial, ⟨by first | assumption | rfl | decide | omega | exact Nat.succ_ne_zero _, by first | assumption | rfl | decide | omega | exact Nat.succ_ne_zero _⟩⟩ ?_
      refine tf_cV hx ftX10_board (nx := 56) (As := []) (rest := []) (st2 := []) (c_clear rfl) rfl lX10_80 (by first | assumption | rfl | decide) rfl ⟨rfl, by decide, by decide, by decide, rfl, rfl⟩ ?_
      refine tf_go hx ftX10_board 1 [] 57 [some (.ref 4), some (.int (nI b1)), some (.int (-9)), some (.int (nI (tf_bn A.2.1 30)))] [.int (nI (tf_bn A.2.1 30))] (tf_set (tf_bp S (8 + 3 * b1) (9 + 3 * b1) (tf_ptb A.2.1)) 109 1 0) rfl ⟨by decide, by decide, rfl⟩ trivial ?_
      exact tf_ret ftX10_board hR rfl ⟨by decide, by decide⟩ rfl rfl rfl
  · rw [if_neg (fun h => c0 h)]
    refine ⟨tf_set S 124 1 (S 124 1 + 1), tf_Fn_of (own := RX10) false ⟨by decide, rfl, by decide⟩ (Nat.le_of_ble_eq_true rfl) trivial (fun x hx hR => ?_), cs_ref hA hC 1, fc_set (by omega)⟩
    show tf_K x 0 0 (tf_GG N) S 0 [some (.ref 4), some (.int b), none, none] []
    refine tf_go hx ftX10_board 1 [] 1 [some (.ref 4), some (.int b), none, none] [.int b] S rfl ⟨by decide, by decide, rfl⟩ trivial ?_
    refine tf_cS hx ftX10_board (nx := 4) (As := [.int b]) (rest := []) (st2 := [.int (if ¬ b < 0 ∧ ¬ 4 ≤ b then 0 else 1)]) (c_noBoard b) rfl lX10_61 rfl ⟨rfl, by decide, by decide, by decide, rfl, rfl⟩ ?_
    rw [if_neg c0]
    refine tf_go hx ftX10_board 1 [false] 7 [some (.ref 4), some (.int b), none, none] [] S rfl ⟨by decide, by decide, rfl⟩ ⟨trivial, (by decide)⟩ ?_
    refine tf_go hx ftX10_board 2 [] 9 [some (.ref 4), some (.int b), none, none] [.int (-1), .ref 4] S rfl ⟨by decide, by decide, rfl⟩ trivial ?_
    refine tf_cV hx ftX10_board (nx := 12) (As := [.int (-1)]) (rest := []) (st2 := [.int (-1)]) (n_ref1) rfl lX10_50 (by first | assumption | rfl | decide) rfl ⟨rfl, by decide, by decide, by decide, rfl, rfl⟩ ?_
    exact tf_ret ftX10_board hR rfl ⟨by decide, by decide⟩ rfl rfl rfl

