theorem tf_wf2_gd {A : tf_A} (hA : tf_okA A) (h10 : A.1 366 < 10) (h2 : 2 ≤ A.2.2.1) (h8 : A.2.2.1 ≤ 8) (fv : ∀ k, k < A.2.2.1 → (97 ≤ A.2.1 k ∧ A.2.1 k ≤ 122) ∨ (0 ≠ 0 ∧ A.2.1 k = 60)) : tf_gd (tf_wf2 A.1 A.2.1 A.2.2.1) := by
  obtain ⟨hg, -, -, -, -, -⟩ := hA
  have u : ∀ k, (k < 224 + 10 * A.1 366 ∨ 224 + 10 * A.1 366 + 2 + A.2.2.1 ≤ k) → k ≠ 366 → tf_wf2 A.1 A.2.1 A.2.2.1 k = A.1 k := fun k h1 h2 => by unfold tf_wf2; exact (if_neg h2).trans ((if_neg (by omega)).trans ((if_neg (by omega)).trans (if_neg (by omega))))
  have c : tf_wf2 A.1 A.2.1 A.2.2.1 366 = A.1 366 + 1 := by unfold tf_wf2; exact if_pos rfl
  have c0 : tf_wf2 A.1 A.2.1 A.2.2.1 (224 + 10 * A.1 366) = A.2.2.1 := by unfold tf_wf2; exact (if_neg (by omega)).trans ((if_neg (by omega)).trans ((if_neg (by omega)).trans (if_pos rfl)))
  have c2 : ∀ j, j < A.2.2.1 → tf_wf2 A.1 A.2.1 A.2.2.1 (224 + 10 * A.1 366 + 2 + j) = tf_tv2 (A.2.1 j) := fun j hj => by
    unfold tf_wf2
    refine (if_neg (by omega)).trans ((if_pos (by omega)).trans ?_)
    rw [show 224 + 10 * A.1 366 + 2 + j - (224 + 10 * A.1 366 + 2) = j by omega]
  have t : ∀ j, j < A.2.2.1 → tf_tv2 (A.2.1 j) < 26 := fun j hj => by
    unfold tf_tv2
    split
    · rcases fv j hj with h | h; omega; exact absurd rfl h.1
    · rcases fv j hj with h | h <;> omega
  obtain ⟨⟨g1, g2, g3, g4⟩, g5, g6, g7, g8, g9, g10, g11⟩ := hg
  refine ⟨⟨by rw [u _ (by omega) (by omega)]; exact g1, by rw [u _ (by omega) (by omega)]; exact g2, by rw [c]; omega, by rw [u _ (by omega) (by omega)]; exact g4⟩, fun z hz => ?_, fun i hi => ?_, fun i hi => ?_, fun z hz j hj => ?_, fun i hi => by rw [u _ (by omega) (by omega)]; exact g9 i hi, fun k hk => by rw [u _ (by omega) (by omega)]; exact g10 k hk, fun b hb k j hk hj h0 h1 => ?_⟩
  · rw [c] at hz
    by_cases q : z = A.1 366
    · rw [q, c0]; exact ⟨h2, h8⟩
    · rw [u _ (by omega) (by omega)]; exact g5 z (by omega)
  · rw [u _ (by omega) (by omega)] at hi; rw [u _ (by omega) (by omega)]; exact g6 i hi
  · rw [u _ (by omega) (by omega)] at hi; rw [u _ (by omega) (by omega)]; exact g7 i hi
  · rw [c] at hz
    by_cases q : z = A.1 366
    · subst q
      rw [c0] at hj
      rw [c2 j hj]
      exact t j hj
    · have g5z := g5 z (by omega)
      rw [u _ (by omega) (by omega)] at hj
      rw [u _ (by omega) (by omega)]
      exact g8 z (by omega) j hj
  · rw [u _ (by omega) (by omega), u _ (by omega) (by omega)] at h0; rw [u _ (by omega) (by omega)] at h1; exact g11 b hb k j hk hj h0 h1

set_option maxHeartbeats 2000000 in
theorem c_word {N : Nat} {S : tf_Sg} {A : tf_A}  (hA : tf_okA A) (hC : tf_cs S A)  : tf_cpq mX10_word 4 N S [.ref 4] (s_word A) := by
  obtain ⟨hg, hb, hA3, hA4, hA5, hA6⟩ := id hA
  obtain ⟨h1j, hS, hK5, ⟨hT1, hT2⟩, hRf, hIm⟩ := id hC
  obtain ⟨⟨g1, g2, g3, g4⟩, g5, g6, g7, g8, g9, g10, g11⟩ := id hg
  unfold s_word
  by_cases e1 : A.1 366 = 10
  · rw [if_pos e1]
    refine ⟨tf_set S 124 6 (S 124 6 + 1), tf_Fn_of (own := RX10) false ⟨by decide, rfl, by decide⟩ (Nat.le_of_ble_eq_true rfl) trivial (fun x hx hR => ?_), cs_ref hA hC 6, fc_set (by omega)⟩
    show tf_K x 0 0 (tf_GG N) S 0 [some (.ref 4), none, none] []
    refine tf_go hx ftX10_word 3 [] 7 [some (.ref 4), none, none] [.ref 32] S rfl ⟨by decide, by decide, rfl⟩ ⟨⟨trivial, ⟨by first | assumption | rfl | decide | omega | exact Nat.succ_ne_zero _, by first | assumption | rfl | decide | omega | exact Nat.succ_ne_zero _⟩⟩, ⟨by first | assumption | rfl | decide | omega | exact Nat.succ_ne_zero _, by first | assumption | rfl | decide | omega | exact Nat.succ_ne_zero _⟩⟩ ?_
    refine tf_cV hx ftX10_word (nx := 10) (As := []) (rest := []) (st2 := [.int (nI (A.1 366))]) (w_size (nw_V hS) hg hb) rfl lX10_101 (by first | assumption | rfl | decide) rfl ⟨rfl, by decide, by decide, by decide, rfl, rfl⟩ ?_
    refine tf_go hx ftX10_word 1 [] 12 [some (.ref 4), none, none] [.int 10, .int (nI (A.1 366))] S rfl ⟨by decide, by decide, rfl⟩ trivial ?_
    refine tf_go hx ftX10_word 1 [false] 15 [some (.ref 4), none, none] [] S rfl ⟨by decide, by decide, rfl⟩ ⟨trivial, (tf_ltF (a := (A.1 366)) (b := 10) rfl (rfl : (10 : Int32) = nI 10) (by have := hb 366; omega) (by have := hb 366; omega) (by have := hb 366; omega))⟩ ?_
    refine tf_go hx ftX10_word 2 [] 18 [some (.ref 4), none, none] [.int (-6), .ref 4] S rfl ⟨by decide, by decide, rfl⟩ trivial ?_
    refine tf_cV hx ftX10_word (nx := 21) (As := [.int (-6)]) (rest := []) (st2 := [.int (-6)]) (n_ref6) rfl lX10_50 (by first | assumption | rfl | decide) rfl ⟨rfl, by decide, by decide, by decide, rfl, rfl⟩ ?_
    exact tf_ret ftX10_word hR rfl ⟨by decide, by decide⟩ rfl rfl rfl
  · rw [if_neg e1]
    by_cases e2 : tf_lf A.2.1 A.2.2.1 0 < A.2.2.1
    · rw [if_pos e2]
      refine ⟨tf_set S 109 1 0, tf_Fn_of (own := RX10) false ⟨by decide, rfl, by decide⟩ (Nat.le_of_ble_eq_true rfl) trivial (fun x hx hR => ?_), cs_t hA hC 0, fc_set (by omega)⟩
      show tf_K x 0 0 (tf_GG N) S 0 [some (.ref 4), none, none] []
      refine tf_go hx ftX10_word 3 [] 7 [some (.ref 4), none, none] [.ref 32] S rfl ⟨by decide, by decide, rfl⟩ ⟨⟨trivial, ⟨by first | assumption | rfl | decide | omega | exact Nat.succ_ne_zero _, by first | assumption | rfl | decide | omega | exact Nat.succ_ne_zero _⟩⟩, ⟨by first | assumption | rfl | decide | omega | exact Nat.succ_ne_zero _, by first | assumption | rfl | decide | omega | exact Nat.succ_ne_zero _⟩⟩ ?_
      refine tf_cV hx ftX10_word (nx := 10) (As := []) (rest := []) (st2 := [.int (nI (A.1 366))]) (w_size (nw_V hS) hg hb) rfl lX10_101 (by first | assumption | rfl | decide) rfl ⟨rfl, by decide, by decide, by decide, rfl, rfl⟩ ?_
      refine tf_go hx ftX10_word 1 [] 12 [some (.ref 4), none, none] [.int 10, .int (nI (A.1 366))] S rfl ⟨by decide, by decide, rfl⟩ trivial ?_
      refine tf_go hx ftX10_word 1 [true] 22 [some (.ref 4), none, none] [] S rfl ⟨by decide, by decide, rfl⟩ ⟨trivial, (tf_ltT (a := (A.1 366)) (b := 10) rfl (rfl : (10 : Int32) = nI 10) (by have := hb 366; omega) (by have := hb 366; omega) (by have := hb 366; omega))⟩ ?_
      refine tf_go hx ftX10_word 3 [] 27 [some (.ref 4), none, none] [.int 0, .ref 109] S rfl ⟨by decide, by decide, rfl⟩ ⟨trivial, ⟨by first | assumption | rfl | decide | omega | exact Nat.succ_ne_zero _, by first | assumption | rfl | decide | omega | exact Nat.succ_ne_zero _⟩⟩ ?_
      refine tf_cS hx ftX10_word (nx := 30) (As := [.ref 109, .int 0]) (rest := []) (st2 := [.int (tf_on A.2.2.1 (tf_lf A.2.1 A.2.2.1 0))]) ((r_textFault 0 (cs_T (N := N) hA hC) hA4 (by decide))) rfl lX10_83 rfl ⟨rfl, by decide, by decide, by decide, rfl, rfl⟩ ?_
      refine tf_go hx ftX10_word 1 [] 31 [some (.ref 4), some (.int (tf_on A.2.2.1 (tf_lf A.2.1 A.2.2.1 0))), none] [] S rfl ⟨by decide, by decide, rfl⟩ trivial ?_
      rw [tf_on_y e2]
      refine tf_go hx ftX10_word 1 [] 32 [some (.ref 4), some (.int (nI (tf_lf A.2.1 A.2.2.1 0))), none] [.int (nI (tf_lf A.2.1 A.2.2.1 0))] S rfl ⟨by decide, by decide, rfl⟩ trivial ?_
      refine tf_go hx ftX10_word 1 [false] 35 [some (.ref 4), some (.int (nI (tf_lf A.2.1 A.2.2.1 0))), none] [] S rfl ⟨by decide, by decide, rfl⟩ ⟨trivial, (tf_ltF (a := (tf_lf A.2.1 A.2.2.1 0)) (b := 0) rfl (rfl : (0 : Int32) = nI 0) (by have := hA4 A.2.2.1; omega) (by have := hA4 A.2.2.1; omega) (by have := hA4 A.2.2.1; omega))⟩ ?_
      refine tf_go hx ftX10_word 4 [] 40 [some (.ref 4), some (.int (nI (tf_lf A.2.1 A.2.2.1 0))), some (.int ((-20) - (nI (tf_lf A.2.1 A.2.2.1 0))))] [] S rfl ⟨by decide, by decide, rfl⟩ trivial ?_
      refine tf_go hx ftX10_word 1 [] 91 [some (.ref 4), some (.int (nI (tf_lf A.2.1 A.2.2.1 0))), some (.int ((-20) - (nI (tf_lf A.2.1 A.2.2.1 0))))] [] S rfl ⟨by decide, by decide, rfl⟩ trivial ?_
      refine tf_go hx ftX10_word 2 [] 95 [some (.ref 4), some (.int (nI (tf_lf A.2.1 A.2.2.1 0))), some (.int ((-20) - (nI (tf_lf A.2.1 A.2.2.1 0))))] [.ref 109] S rfl ⟨by decide, by decide, rfl⟩ ⟨trivial, ⟨by first | assumption | rfl | decide | omega | exact Nat.succ_ne_zero _, by first | assumption | rfl | decide | omega | exact Nat.succ_ne_zero _⟩⟩ ?_
      refine tf_cV hx ftX10_word (nx := 98) (As := []) (rest := []) (st2 := []) (c_clear rfl) rfl lX10_80 (by first | assumption | rfl | decide) rfl ⟨rfl, by decide, by decide, by decide, rfl, rfl⟩ ?_
      refine tf_go hx ftX10_word 1 [] 99 [some (.ref 4), some (.int (nI (tf_lf A.2.1 A.2.2.1 0))), some (.int ((-20) - (nI (tf_lf A.2.1 A.2.2.1 0))))] [.int ((-20) - (nI (tf_lf A.2.1 A.2.2.1 0)))] (tf_set S 109 1 0) rfl ⟨by decide, by decide, rfl⟩ trivial ?_
      exact tf_ret ftX10_word hR rfl ⟨by decide, by decide⟩ rfl rfl rfl
    · rw [if_neg e2]
      have fv := tf_lf_no e2
      by_cases e3 : A.2.2.1 < 2
      · rw [if_pos (Or.inl e3)]
        refine ⟨tf_set (tf_set S 124 3 (S 124 3 + 1)) 109 1 0, tf_Fn_of (own := RX10) false ⟨by decide, rfl, by decide⟩ (Nat.le_of_ble_eq_true rfl) trivial (fun x hx hR => ?_), (by rw [tf_set_c (by decide)]; have h := cs_ref (A := tA_t A A.2.1 0) ⟨hg, hb, Nat.zero_le _, hA4, hA5, hA6⟩ (cs_t hA hC 0) 3; rw [tf_set_n (show (124 : Nat) ≠ 109 by decide)] at h; exact h), fc_tr (fc_set (by omega)) (fc_set (by omega))⟩
        show tf_K x 0 0 (tf_GG N) S 0 [some (.ref 4), none, none] []
        refine tf_go hx ftX10_word 3 [] 7 [some (.ref 4), none, none] [.ref 32] S rfl ⟨by decide, by decide, rfl⟩ ⟨⟨trivial, ⟨by first | assumption | rfl | decide | omega | exact Nat.succ_ne_zero _, by first | assumption | rfl | decide | omega | exact Nat.succ_ne_zero _⟩⟩, ⟨by first | assumption | rfl | decide | omega | exact Nat.succ_ne_zero _, by first | assumption | rfl | decide | omega | exact Nat.succ_ne_zero _⟩⟩ ?_
        refine tf_cV hx ftX10_word (nx := 10) (As := []) (rest := []) (st2 := [.int (nI (A.1 366))]) (w_size (nw_V hS) hg hb) rfl lX10_101 (by first | assumption | rfl | decide) rfl ⟨rfl, by decide, by decide, by decide, rfl, rfl⟩ ?_
        refine tf_go hx ftX10_word 1 [] 12 [some (.ref 4), none, none] [.int 10, .int (nI (A.1 366))] S rfl ⟨by decide, by decide, rfl⟩ trivial ?_
        refine tf_go hx ftX10_word 1 [true] 22 [some (.ref 4), none, none] [] S rfl ⟨by decide, by decide, rfl⟩ ⟨trivial, (tf_ltT (a := (A.1 366)) (b := 10) rfl (rfl : (10 : Int32) = nI 10) (by have := hb 366; omega) (by have := hb 366; omega) (by have := hb 366; omega))⟩ ?_
        refine tf_go hx ftX10_word 3 [] 27 [some (.ref 4), none, none] [.int 0, .ref 109] S rfl ⟨by decide, by decide, rfl⟩ ⟨trivial, ⟨by first | assumption | rfl | decide | omega | exact Nat.succ_ne_zero _, by first | assumption | rfl | decide | omega | exact Nat.succ_ne_zero _⟩⟩ ?_
        refine tf_cS hx ftX10_word (nx := 30) (As := [.ref 109, .int 0]) (rest := []) (st2 := [.int (tf_on A.2.2.1 (tf_lf A.2.1 A.2.2.1 0))]) ((r_textFault 0 (cs_T (N := N) hA hC) hA4 (by decide))) rfl lX10_83 rfl ⟨rfl, by decide, by decide, by decide, rfl, rfl⟩ ?_
        refine tf_go hx ftX10_word 1 [] 31 [some (.ref 4), some (.int (tf_on A.2.2.1 (tf_lf A.2.1 A.2.2.1 0))), none] [] S rfl ⟨by decide, by decide, rfl⟩ trivial ?_
        rw [tf_on_n e2]
        refine tf_go hx ftX10_word 1 [] 32 [some (.ref 4), some (.int (-9)), none] [.int (-9)] S rfl ⟨by decide, by decide, rfl⟩ trivial ?_
        refine tf_go hx ftX10_word 1 [true] 43 [some (.ref 4), some (.int (-9)), none] [] S rfl ⟨by decide, by decide, rfl⟩ ⟨trivial, (by decide)⟩ ?_
        refine tf_go hx ftX10_word 2 [] 47 [some (.ref 4), some (.int (-9)), none] [.ref 109] S rfl ⟨by decide, by decide, rfl⟩ ⟨trivial, ⟨by first | assumption | rfl | decide | omega | exact Nat.succ_ne_zero _, by first | assumption | rfl | decide | omega | exact Nat.succ_ne_zero _⟩⟩ ?_
        refine tf_cV hx ftX10_word (nx := 50) (As := []) (rest := []) (st2 := [.int (nI A.2.2.1)]) (v_size (cs_T (N := N) hA hC)) rfl lX10_54 (by first | assumption | rfl | decide) rfl ⟨rfl, by decide, by decide, by decide, rfl, rfl⟩ ?_
        refine tf_go hx ftX10_word 1 [] 51 [some (.ref 4), some (.int (-9)), none] [.int 2, .int (nI A.2.2.1)] S rfl ⟨by decide, by decide, rfl⟩ trivial ?_
        refine tf_go hx ftX10_word 1 [true] 66 [some (.ref 4), some (.int (-9)), none] [] S rfl ⟨by decide, by decide, rfl⟩ ⟨trivial, (tf_ltT (a := A.2.2.1) (b := 2) rfl (rfl : (2 : Int32) = nI 2) (by omega) (by omega) (by omega))⟩ ?_
        refine tf_go hx ftX10_word 2 [] 69 [some (.ref 4), some (.int (-9)), none] [.int (-3), .ref 4] S rfl ⟨by decide, by decide, rfl⟩ trivial ?_
        refine tf_cV hx ftX10_word (nx := 72) (As := [.int (-3)]) (rest := []) (st2 := [.int (-3)]) (n_ref3) rfl lX10_50 (by first | assumption | rfl | decide) rfl ⟨rfl, by decide, by decide, by decide, rfl, rfl⟩ ?_
        refine tf_go hx ftX10_word 1 [] 73 [some (.ref 4), some (.int (-9)), some (.int (-3))] [] (tf_set S 124 3 (S 124 3 + 1)) rfl ⟨by decide, by decide, rfl⟩ trivial ?_
        refine tf_go hx ftX10_word 1 [] 91 [some (.ref 4), some (.int (-9)), some (.int (-3))] [] (tf_set S 124 3 (S 124 3 + 1)) rfl ⟨by decide, by decide, rfl⟩ trivial ?_
        refine tf_go hx ftX10_word 2 [] 95 [some (.ref 4), some (.int (-9)), some (.int (-3))] [.ref 109] (tf_set S 124 3 (S 124 3 + 1)) rfl ⟨by decide, by decide, rfl⟩ ⟨trivial, ⟨by first | assumption | rfl | decide | omega | exact Nat.succ_ne_zero _, by first | assumption | rfl | decide | omega | exact Nat.succ_ne_zero _⟩⟩ ?_
        refine tf_cV hx ftX10_word (nx := 98) (As := []) (rest := []) (st2 := []) (c_clear rfl) rfl lX10_80 (by first | assumption | rfl | decide) rfl ⟨rfl, by decide, by decide, by decide, rfl, rfl⟩ ?_
        refine tf_go hx ftX10_word 1 [] 99 [some (.ref 4), some (.int (-9)), some (.int (-3))] [.int (-3)] (tf_set (tf_set S 124 3 (S 124 3 + 1)) 109 1 0) rfl ⟨by decide, by decide, rfl⟩ trivial ?_
        exact tf_ret ftX10_word hR rfl ⟨by decide, by decide⟩ rfl rfl rfl
      · by_cases e4 : 8 < A.2.2.1
        · rw [if_pos (Or.inr e4)]
          refine ⟨tf_set (tf_set S 124 3 (S 124 3 + 1)) 109 1 0, tf_Fn_of (own := RX10) false ⟨by decide, rfl, by decide⟩ (Nat.le_of_ble_eq_true rfl) trivial (fun x hx hR => ?_), (by rw [tf_set_c (by decide)]; have h := cs_ref (A := tA_t A A.2.1 0) ⟨hg, hb, Nat.zero_le _, hA4, hA5, hA6⟩ (cs_t hA hC 0) 3; rw [tf_set_n (show (124 : Nat) ≠ 109 by decide)] at h; exact h), fc_tr (fc_set (by omega)) (fc_set (by omega))⟩
          show tf_K x 0 0 (tf_GG N) S 0 [some (.ref 4), none, none] []
          refine tf_go hx ftX10_word 3 [] 7 [some (.ref 4), none, none] [.ref 32] S rfl ⟨by decide, by decide, rfl⟩ ⟨⟨trivial, ⟨by first | assumption | rfl | decide | omega | exact Nat.succ_ne_zero _, by first | assumption | rfl | decide | omega | exact Nat.succ_ne_zero _⟩⟩, ⟨by first | assumption | rfl | decide | omega | exact Nat.succ_ne_zero _, by first | assumption | rfl | decide | omega | exact Nat.succ_ne_zero _⟩⟩ ?_
          refine tf_cV hx ftX10_word (nx := 10) (As := []) (rest := []) (st2 := [.int (nI (A.1 366))]) (w_size (nw_V hS) hg hb) rfl lX10_101 (by first | assumption | rfl | decide) rfl ⟨rfl, by decide, by decide, by decide, rfl, rfl⟩ ?_
          refine tf_go hx ftX10_word 1 [] 12 [some (.ref 4), none, none] [.int 10, .int (nI (A.1 366))] S rfl ⟨by decide, by decide, rfl⟩ trivial ?_
          refine tf_go hx ftX10_word 1 [true] 22 [some (.ref 4), none, none] [] S rfl ⟨by decide, by decide, rfl⟩ ⟨trivial, (tf_ltT (a := (A.1 366)) (b := 10) rfl (rfl : (10 : Int32) = nI 10) (by have := hb 366; omega) (by have := hb 366; omega) (by have := hb 366; omega))⟩ ?_
          refine tf_go hx ftX10_word 3 [] 27 [some (.ref 4), none, none] [.int 0, .ref 109] S rfl ⟨by decide, by decide, rfl⟩ ⟨trivial, ⟨by first | assumption | rfl | decide | omega | exact Nat.succ_ne_zero _, by first | assumption | rfl | decide | omega | exact Nat.succ_ne_zero _⟩⟩ ?_
          refine tf_cS hx ftX10_word (nx := 30) (As := [.ref 109, .int 0]) (rest := []) (st2 := [.int (tf_on A.2.2.1 (tf_lf A.2.1 A.2.2.1 0))]) ((r_textFault 0 (cs_T (N := N) hA hC) hA4 (by decide))) rfl lX10_83 rfl ⟨rfl, by decide, by decide, by decide, rfl, rfl⟩ ?_
          refine tf_go hx ftX10_word 1 [] 31 [some (.ref 4), some (.int (tf_on A.2.2.1 (tf_lf A.2.1 A.2.2.1 0))), none] [] S rfl ⟨by decide, by decide, rfl⟩ trivial ?_
          rw [tf_on_n e2]
          refine tf_go hx ftX10_word 1 [] 32 [some (.ref 4), some (.int (-9)), none] [.int (-9)] S rfl ⟨by decide, by decide, rfl⟩ trivial ?_
          refine tf_go hx ftX10_word 1 [true] 43 [some (.ref 4), some (.int (-9)), none] [] S rfl ⟨by decide, by decide, rfl⟩ ⟨trivial, (by decide)⟩ ?_
          refine tf_go hx ftX10_word 2 [] 47 [some (.ref 4), some (.int (-9)), none] [.ref 109] S rfl ⟨by decide, by decide, rfl⟩ ⟨trivial, ⟨by first | assumption | rfl | decide | omega | exact Nat.succ_ne_zero _, by first | assumption | rfl | decide | omega | exact Nat.succ_ne_zero _⟩⟩ ?_
          refine tf_cV hx ftX10_word (nx := 50) (As := []) (rest := []) (st2 := [.int (nI A.2.2.1)]) (v_size (cs_T (N := N) hA hC)) rfl lX10_54 (by first | assumption | rfl | decide) rfl ⟨rfl, by decide, by decide, by decide, rfl, rfl⟩ ?_
          refine tf_go hx ftX10_word 1 [] 51 [some (.ref 4), some (.int (-9)), none] [.int 2, .int (nI A.2.2.1)] S rfl ⟨by decide, by decide, rfl⟩ trivial ?_
          refine tf_go hx ftX10_word 1 [false] 54 [some (.ref 4), some (.int (-9)), none] [] S rfl ⟨by decide, by decide, rfl⟩ ⟨trivial, (tf_ltF (a := A.2.2.1) (b := 2) rfl (rfl : (2 : Int32) = nI 2) (by omega) (by omega) (by omega))⟩ ?_
          refine tf_go hx ftX10_word 2 [] 58 [some (.ref 4), some (.int (-9)), none] [.ref 109] S rfl ⟨by decide, by decide, rfl⟩ ⟨trivial, ⟨by first | assumption | rfl | decide | omega | exact Nat.succ_ne_zero _, by first | assumption | rfl | decide | omega | exact Nat.succ_ne_zero _⟩⟩ ?_
          refine tf_cV hx ftX10_word (nx := 61) (As := []) (rest := []) (st2 := [.int (nI A.2.2.1)]) (v_size (cs_T (N := N) hA hC)) rfl lX10_54 (by first | assumption | rfl | decide) rfl ⟨rfl, by decide, by decide, by decide, rfl, rfl⟩ ?_
          refine tf_go hx ftX10_word 1 [] 63 [some (.ref 4), some (.int (-9)), none] [.int 8, .int (nI A.2.2.1)] S rfl ⟨by decide, by decide, rfl⟩ trivial ?_
          refine tf_go hx ftX10_word 1 [false] 66 [some (.ref 4), some (.int (-9)), none] [] S rfl ⟨by decide, by decide, rfl⟩ ⟨trivial, (tf_leF (a := A.2.2.1) (b := 8) rfl (rfl : (8 : Int32) = nI 8) (by omega) (by omega) (by omega))⟩ ?_
          refine tf_go hx ftX10_word 2 [] 69 [some (.ref 4), some (.int (-9)), none] [.int (-3), .ref 4] S rfl ⟨by decide, by decide, rfl⟩ trivial ?_
          refine tf_cV hx ftX10_word (nx := 72) (As := [.int (-3)]) (rest := []) (st2 := [.int (-3)]) (n_ref3) rfl lX10_50 (by first | assumption | rfl | decide) rfl ⟨rfl, by decide, by decide, by decide, rfl, rfl⟩ ?_
          refine tf_go hx ftX10_word 1 [] 73 [some (.ref 4), some (.int (-9)), some (.int (-3))] [] (tf_set S 124 3 (S 124 3 + 1)) rfl ⟨by decide, by decide, rfl⟩ trivial ?_
          refine tf_go hx ftX10_word 1 [] 91 [some (.ref 4), some (.int (-9)), some (.int (-3))] [] (tf_set S 124 3 (S 124 3 + 1)) rfl ⟨by decide, by decide, rfl⟩ trivial ?_
          refine tf_go hx ftX10_word 2 [] 95 [some (.ref 4), some (.int (-9)), some (.int (-3))] [.ref 109] (tf_set S 124 3 (S 124 3 + 1)) rfl ⟨by decide, by decide, rfl⟩ ⟨trivial, ⟨by first | assumption | rfl | decide | omega | exact Nat.succ_ne_zero _, by first | assumption | rfl | decide | omega | exact Nat.succ_ne_zero _⟩⟩ ?_
          refine tf_cV hx ftX10_word (nx := 98) (As := []) (rest := []) (st2 := []) (c_clear rfl) rfl lX10_80 (by first | assumption | rfl | decide) rfl ⟨rfl, by decide, by decide, by decide, rfl, rfl⟩ ?_
          refine tf_go hx ftX10_word 1 [] 99 [some (.ref 4), some (.int (-9)), some (.int (-3))] [.int (-3)] (tf_set (tf_set S 124 3 (S 124 3 + 1)) 109 1 0) rfl ⟨by decide, by decide, rfl⟩ trivial ?_
          exact tf_ret ftX10_word hR rfl ⟨by decide, by decide⟩ rfl rfl rfl
        · rw [if_neg (by rintro (h | h); exact e3 h; exact e4 h)]
          have h10 : A.1 366 < 10 := by omega
          have hw : ∀ a, (a < 32 ∨ 54 < a) → (tf_wS2 S A.1 A.2.1 A.2.2.1) a = S a := fun a ha => by unfold tf_wS2; rw [tf_set_n (by omega), tf_set_n (by omega), tf_wr_ne (by omega) (by omega)]
          have hst : tf_st (tf_wS2 S A.1 A.2.1 A.2.2.1) 5 (tf_wf2 A.1 A.2.1 A.2.2.1) := st_word hS hg h10 (by omega)
          have hcs : tf_cs (tf_set (tf_wS2 S A.1 A.2.1 A.2.2.1) 109 1 0) ((tf_wf2 A.1 A.2.1 A.2.2.1), A.2.1, 0, A.2.2.2) := cs_g hA hC (fun a ha => by rw [tf_set_n (by omega)]; exact hw a (by omega)) (tf_st_c hst (tf_wf2_gd hA h10 (by omega) (by omega) fv) (fun a h1 h2 => tf_set_n (by omega))) tf_set_s (fun j => by rw [tf_set_n (by decide), hw 110 (by omega)]; exact hT2 j)
          refine ⟨tf_set (tf_wS2 S A.1 A.2.1 A.2.2.1) 109 1 0, tf_Fn_of (own := RX10) false ⟨by decide, rfl, by decide⟩ (Nat.le_of_ble_eq_true rfl) trivial (fun x hx hR => ?_), hcs, (fun a ha => by rw [tf_set_n (by omega)]; exact hw a (by omega))⟩
          show tf_K x 0 0 (tf_GG N) S 0 [some (.ref 4), none, none] []
          refine tf_go hx ftX10_word 3 [] 7 [some (.ref 4), none, none] [.ref 32] S rfl ⟨by decide, by decide, rfl⟩ ⟨⟨trivial, ⟨by first | assumption | rfl | decide | omega | exact Nat.succ_ne_zero _, by first | assumption | rfl | decide | omega | exact Nat.succ_ne_zero _⟩⟩, ⟨by first | assumption | rfl | decide | omega | exact Nat.succ_ne_zero _, by first | assumption | rfl | decide | omega | exact Nat.succ_ne_zero _⟩⟩ ?_
          refine tf_cV hx ftX10_word (nx := 10) (As := []) (rest := []) (st2 := [.int (nI (A.1 366))]) (w_size (nw_V hS) hg hb) rfl lX10_101 (by first | assumption | rfl | decide) rfl ⟨rfl, by decide, by decide, by decide, rfl, rfl⟩ ?_
          refine tf_go hx ftX10_word 1 [] 12 [some (.ref 4), none, none] [.int 10, .int (nI (A.1 366))] S rfl ⟨by decide, by decide, rfl⟩ trivial ?_
          refine tf_go hx ftX10_word 1 [true] 22 [some (.ref 4), none, none] [] S rfl ⟨by decide, by decide, rfl⟩ ⟨trivial, (tf_ltT (a := (A.1 366)) (b := 10) rfl (rfl : (10 : Int32) = nI 10) (by have := hb 366; omega) (by have := hb 366; omega) (by have := hb 366; omega))⟩ ?_
          refine tf_go hx ftX10_word 3 [] 27 [some (.ref 4), none, none] [.int 0, .ref 109] S rfl ⟨by decide, by decide, rfl⟩ ⟨trivial, ⟨by first | assumption | rfl | decide | omega | exact Nat.succ_ne_zero _, by first | assumption | rfl | decide | omega | exact Nat.succ_ne_zero _⟩⟩ ?_
          refine tf_cS hx ftX10_word (nx := 30) (As := [.ref 109, .int 0]) (rest := []) (st2 := [.int (tf_on A.2.2.1 (tf_lf A.2.1 A.2.2.1 0))]) ((r_textFault 0 (cs_T (N := N) hA hC) hA4 (by decide))) rfl lX10_83 rfl ⟨rfl, by decide, by decide, by decide, rfl, rfl⟩ ?_
          refine tf_go hx ftX10_word 1 [] 31 [some (.ref 4), some (.int (tf_on A.2.2.1 (tf_lf A.2.1 A.2.2.1 0))), none] [] S rfl ⟨by decide, by decide, rfl⟩ trivial ?_
          rw [tf_on_n e2]
          refine tf_go hx ftX10_word 1 [] 32 [some (.ref 4), some (.int (-9)), none] [.int (-9)] S rfl ⟨by decide, by decide, rfl⟩ trivial ?_
          refine tf_go hx ftX10_word 1 [true] 43 [some (.ref 4), some (.int (-9)), none] [] S rfl ⟨by decide, by decide, rfl⟩ ⟨trivial, (by decide)⟩ ?_
          refine tf_go hx ftX10_word 2 [] 47 [some (.ref 4), some (.int (-9)), none] [.ref 109] S rfl ⟨by decide, by decide, rfl⟩ ⟨trivial, ⟨by first | assumption | rfl | decide | omega | exact Nat.succ_ne_zero _, by first | assumption | rfl | decide | omega | exact Nat.succ_ne_zero _⟩⟩ ?_
          refine tf_cV hx ftX10_word (nx := 50) (As := []) (rest := []) (st2 := [.int (nI A.2.2.1)]) (v_size (cs_T (N := N) hA hC)) rfl lX10_54 (by first | assumption | rfl | decide) rfl ⟨rfl, by decide, by decide, by decide, rfl, rfl⟩ ?_
          refine tf_go hx ftX10_word 1 [] 51 [some (.ref 4), some (.int (-9)), none] [.int 2, .int (nI A.2.2.1)] S rfl ⟨by decide, by decide, rfl⟩ trivial ?_
          refine tf_go hx ftX10_word 1 [false] 54 [some (.ref 4), some (.int (-9)), none] [] S rfl ⟨by decide, by decide, rfl⟩ ⟨trivial, (tf_ltF (a := A.2.2.1) (b := 2) rfl (rfl : (2 : Int32) = nI 2) (by omega) (by omega) (by omega))⟩ ?_
          refine tf_go hx ftX10_word 2 [] 58 [some (.ref 4), some (.int (-9)), none] [.ref 109] S rfl ⟨by decide, by decide, rfl⟩ ⟨trivial, ⟨by first | assumption | rfl | decide | omega | exact Nat.succ_ne_zero _, by first | assumption | rfl | decide | omega | exact Nat.succ_ne_zero _⟩⟩ ?_
          refine tf_cV hx ftX10_word (nx := 61) (As := []) (rest := []) (st2 := [.int (nI A.2.2.1)]) (v_size (cs_T (N := N) hA hC)) rfl lX10_54 (by first | assumption | rfl | decide) rfl ⟨rfl, by decide, by decide, by decide, rfl, rfl⟩ ?_
          refine tf_go hx ftX10_word 1 [] 63 [some (.ref 4), some (.int (-9)), none] [.int 8, .int (nI A.2.2.1)] S rfl ⟨by decide, by decide, rfl⟩ trivial ?_
          refine tf_go hx ftX10_word 1 [true] 76 [some (.ref 4), some (.int (-9)), none] [] S rfl ⟨by decide, by decide, rfl⟩ ⟨trivial, (tf_leT (a := A.2.2.1) (b := 8) rfl (rfl : (8 : Int32) = nI 8) (by omega) (by omega) (by omega))⟩ ?_
          refine tf_go hx ftX10_word 5 [] 87 [some (.ref 4), some (.int (-9)), none] [.ref 109, .ref 32] S rfl ⟨by decide, by decide, rfl⟩ ⟨⟨⟨trivial, ⟨by first | assumption | rfl | decide | omega | exact Nat.succ_ne_zero _, by first | assumption | rfl | decide | omega | exact Nat.succ_ne_zero _⟩⟩, ⟨by first | assumption | rfl | decide | omega | exact Nat.succ_ne_zero _, by first | assumption | rfl | decide | omega | exact Nat.succ_ne_zero _⟩⟩, ⟨by first | assumption | rfl | decide | omega | exact Nat.succ_ne_zero _, by first | assumption | rfl | decide | omega | exact Nat.succ_ne_zero _⟩⟩ ?_
          refine tf_cV hx ftX10_word (nx := 90) (As := [.ref 109]) (rest := []) (st2 := [.int (nI (A.1 366))]) ((show tf_Fn mX9_addFrom 3 0 0 (tf_GG N) S [.ref 32, .ref 109] (tf_GG N) (tf_wS2 S A.1 A.2.1 A.2.2.1) (some (.int (nI (A.1 366)))) from w_addFrom (nw_V hS) hg hb h10 (cs_T (N := N) hA hC) hA4 (fun k hk => by rcases fv k hk with h | h; exact Or.inl h; exact Or.inr h.2) (by omega))) rfl lX10_104 (by first | assumption | rfl | decide) rfl ⟨rfl, by decide, by decide, by decide, rfl, rfl⟩ ?_
          refine tf_go hx ftX10_word 1 [] 91 [some (.ref 4), some (.int (-9)), some (.int (nI (A.1 366)))] [] (tf_wS2 S A.1 A.2.1 A.2.2.1) rfl ⟨by decide, by decide, rfl⟩ trivial ?_
          refine tf_go hx ftX10_word 2 [] 95 [some (.ref 4), some (.int (-9)), some (.int (nI (A.1 366)))] [.ref 109] (tf_wS2 S A.1 A.2.1 A.2.2.1) rfl ⟨by decide, by decide, rfl⟩ ⟨trivial, ⟨by first | assumption | rfl | decide | omega | exact Nat.succ_ne_zero _, by first | assumption | rfl | decide | omega | exact Nat.succ_ne_zero _⟩⟩ ?_
          refine tf_cV hx ftX10_word (nx := 98) (As := []) (rest := []) (st2 := []) (c_clear rfl) rfl lX10_80 (by first | assumption | rfl | decide) rfl ⟨rfl, by decide, by decide, by decide, rfl, rfl⟩ ?_
          refine tf_go hx ftX10_word 1 [] 99 [some (.ref 4), some (.int (-9)), some (.int (nI (A.1 366)))] [.int (nI (A.1 366))] (tf_set (tf_wS2 S A.1 A.2.1 A.2.2.1) 109 1 0) rfl ⟨by decide, by decide, rfl⟩ trivial ?_
          exact tf_ret ftX10_word hR rfl ⟨by decide, by decide⟩ rfl rfl rfl

