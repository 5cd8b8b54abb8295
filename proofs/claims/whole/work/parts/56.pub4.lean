set_option maxHeartbeats 2000000 in
theorem c_climb {N : Nat} {S : tf_Sg} {A : tf_A} (h b n : Int32) (hA : tf_okA A) (hC : tf_cs S A)  : tf_cpq mX10_climb 7 N S [.ref 4, .int h, .int b, .int n] (s_climb A h b n) := by
  obtain ⟨hg, hb, hA3, hA4, hA5, hA6⟩ := id hA
  obtain ⟨h1j, hS, hK5, ⟨hT1, hT2⟩, hRf, hIm⟩ := id hC
  obtain ⟨⟨g1, g2, g3, g4⟩, g5, g6, g7, g8, g9, g10, g11⟩ := id hg
  unfold s_climb
  by_cases c0 : ¬ h < 0 ∧ ¬ 4 ≤ h
  · by_cases c1 : ¬ b < 0 ∧ ¬ 4 ≤ b
    · rw [if_pos ⟨c0, c1⟩]
      obtain ⟨h1, h1_lt, h1_eq, h1_cl⟩ := tf_ok_nI (N := 4) (show tf_ok h _ from c0) rfl (by decide)
      try rw [h1_cl]
      obtain ⟨b1, b1_lt, b1_eq, b1_cl⟩ := tf_ok_nI (N := 4) (show tf_ok b _ from c1) rfl (by decide)
      try rw [b1_cl]
      subst h1_eq
      subst b1_eq
      by_cases e1 : ¬ 1 ≤ n
      · rw [if_pos e1]
        refine ⟨tf_set S 124 4 (S 124 4 + 1), tf_Fn_of (own := RX10) false ⟨by decide, rfl, by decide⟩ (Nat.le_of_ble_eq_true rfl) trivial (fun x hx hR => ?_), cs_ref hA hC 4, fc_set (by omega)⟩
        show tf_K x 0 0 (tf_GG N) S 0 [some (.ref 4), some (.int (nI h1)), some (.int (nI b1)), some (.int n), none, none] []
        refine tf_go hx ftX10_climb 1 [] 1 [some (.ref 4), some (.int (nI h1)), some (.int (nI b1)), some (.int n), none, none] [.int (nI h1)] S rfl ⟨by decide, by decide, rfl⟩ trivial ?_
        refine tf_cS hx ftX10_climb (nx := 4) (As := [.int (nI h1)]) (rest := []) (st2 := [.int (if ¬ (nI h1) < 0 ∧ ¬ 4 ≤ (nI h1) then 0 else 1)]) (c_noHand (nI h1)) rfl lX10_122 rfl ⟨rfl, by decide, by decide, by decide, rfl, rfl⟩ ?_
        rw [if_pos c0]
        refine tf_go hx ftX10_climb 1 [false] 7 [some (.ref 4), some (.int (nI h1)), some (.int (nI b1)), some (.int n), none, none] [] S rfl ⟨by decide, by decide, rfl⟩ ⟨trivial, (by decide)⟩ ?_
        refine tf_go hx ftX10_climb 1 [] 8 [some (.ref 4), some (.int (nI h1)), some (.int (nI b1)), some (.int n), none, none] [.int (nI b1)] S rfl ⟨by decide, by decide, rfl⟩ trivial ?_
        refine tf_cS hx ftX10_climb (nx := 11) (As := [.int (nI b1)]) (rest := []) (st2 := [.int (if ¬ (nI b1) < 0 ∧ ¬ 4 ≤ (nI b1) then 0 else 1)]) (c_noBoard (nI b1)) rfl lX10_61 rfl ⟨rfl, by decide, by decide, by decide, rfl, rfl⟩ ?_
        rw [if_pos c1]
        refine tf_go hx ftX10_climb 1 [true] 20 [some (.ref 4), some (.int (nI h1)), some (.int (nI b1)), some (.int n), none, none] [] S rfl ⟨by decide, by decide, rfl⟩ ⟨trivial, (by decide)⟩ ?_
        refine tf_go hx ftX10_climb 2 [] 22 [some (.ref 4), some (.int (nI h1)), some (.int (nI b1)), some (.int n), none, none] [.int 1, .int n] S rfl ⟨by decide, by decide, rfl⟩ trivial ?_
        refine tf_go hx ftX10_climb 1 [false] 25 [some (.ref 4), some (.int (nI h1)), some (.int (nI b1)), some (.int n), none, none] [] S rfl ⟨by decide, by decide, rfl⟩ ⟨trivial, e1⟩ ?_
        refine tf_go hx ftX10_climb 2 [] 28 [some (.ref 4), some (.int (nI h1)), some (.int (nI b1)), some (.int n), none, none] [.int (-4), .ref 4] S rfl ⟨by decide, by decide, rfl⟩ trivial ?_
        refine tf_cV hx ftX10_climb (nx := 31) (As := [.int (-4)]) (rest := []) (st2 := [.int (-4)]) (n_ref4) rfl lX10_50 (by first | assumption | rfl | decide) rfl ⟨rfl, by decide, by decide, by decide, rfl, rfl⟩ ?_
        exact tf_ret ftX10_climb hR rfl ⟨by decide, by decide⟩ rfl rfl rfl
      · by_cases e2 : ¬ n ≤ 5
        · rw [if_neg e1, if_pos e2]
          refine ⟨tf_set S 124 6 (S 124 6 + 1), tf_Fn_of (own := RX10) false ⟨by decide, rfl, by decide⟩ (Nat.le_of_ble_eq_true rfl) trivial (fun x hx hR => ?_), cs_ref hA hC 6, fc_set (by omega)⟩
          show tf_K x 0 0 (tf_GG N) S 0 [some (.ref 4), some (.int (nI h1)), some (.int (nI b1)), some (.int n), none, none] []
          refine tf_go hx ftX10_climb 1 [] 1 [some (.ref 4), some (.int (nI h1)), some (.int (nI b1)), some (.int n), none, none] [.int (nI h1)] S rfl ⟨by decide, by decide, rfl⟩ trivial ?_
          refine tf_cS hx ftX10_climb (nx := 4) (As := [.int (nI h1)]) (rest := []) (st2 := [.int (if ¬ (nI h1) < 0 ∧ ¬ 4 ≤ (nI h1) then 0 else 1)]) (c_noHand (nI h1)) rfl lX10_122 rfl ⟨rfl, by decide, by decide, by decide, rfl, rfl⟩ ?_
          rw [if_pos c0]
          refine tf_go hx ftX10_climb 1 [false] 7 [some (.ref 4), some (.int (nI h1)), some (.int (nI b1)), some (.int n), none, none] [] S rfl ⟨by decide, by decide, rfl⟩ ⟨trivial, (by decide)⟩ ?_
          refine tf_go hx ftX10_climb 1 [] 8 [some (.ref 4), some (.int (nI h1)), some (.int (nI b1)), some (.int n), none, none] [.int (nI b1)] S rfl ⟨by decide, by decide, rfl⟩ trivial ?_
          refine tf_cS hx ftX10_climb (nx := 11) (As := [.int (nI b1)]) (rest := []) (st2 := [.int (if ¬ (nI b1) < 0 ∧ ¬ 4 ≤ (nI b1) then 0 else 1)]) (c_noBoard (nI b1)) rfl lX10_61 rfl ⟨rfl, by decide, by decide, by decide, rfl, rfl⟩ ?_
          rw [if_pos c1]
          refine tf_go hx ftX10_climb 1 [true] 20 [some (.ref 4), some (.int (nI h1)), some (.int (nI b1)), some (.int n), none, none] [] S rfl ⟨by decide, by decide, rfl⟩ ⟨trivial, (by decide)⟩ ?_
          refine tf_go hx ftX10_climb 2 [] 22 [some (.ref 4), some (.int (nI h1)), some (.int (nI b1)), some (.int n), none, none] [.int 1, .int n] S rfl ⟨by decide, by decide, rfl⟩ trivial ?_
          refine tf_go hx ftX10_climb 1 [true] 32 [some (.ref 4), some (.int (nI h1)), some (.int (nI b1)), some (.int n), none, none] [] S rfl ⟨by decide, by decide, rfl⟩ ⟨trivial, (Classical.not_not.mp e1)⟩ ?_
          refine tf_go hx ftX10_climb 2 [] 34 [some (.ref 4), some (.int (nI h1)), some (.int (nI b1)), some (.int n), none, none] [.int 5, .int n] S rfl ⟨by decide, by decide, rfl⟩ trivial ?_
          refine tf_go hx ftX10_climb 1 [false] 37 [some (.ref 4), some (.int (nI h1)), some (.int (nI b1)), some (.int n), none, none] [] S rfl ⟨by decide, by decide, rfl⟩ ⟨trivial, e2⟩ ?_
          refine tf_go hx ftX10_climb 2 [] 40 [some (.ref 4), some (.int (nI h1)), some (.int (nI b1)), some (.int n), none, none] [.int (-6), .ref 4] S rfl ⟨by decide, by decide, rfl⟩ trivial ?_
          refine tf_cV hx ftX10_climb (nx := 43) (As := [.int (-6)]) (rest := []) (st2 := [.int (-6)]) (n_ref6) rfl lX10_50 (by first | assumption | rfl | decide) rfl ⟨rfl, by decide, by decide, by decide, rfl, rfl⟩ ?_
          exact tf_ret ftX10_climb hR rfl ⟨by decide, by decide⟩ rfl rfl rfl
        · rw [if_neg e1, if_neg e2]
          obtain ⟨n1, n1_le, n1_eq⟩ := nI_of2 (M := 5) (n := 5) (x := n) (by decide) (fun h => e1 (fun h2 => absurd (Int32.lt_of_lt_of_le h (by decide)) (Int32.not_lt.mpr h2))) (Classical.not_not.mp e2)
          have n1_cl : n.toNatClampNeg = n1 := by rw [n1_eq]; exact tf_cl_nI (by omega)
          try rw [n1_cl]
          subst n1_eq
          have hS1 : tf_st (tf_px S A.1) 5 A.1 := nw_st hS hg tf_sx_px
          obtain ⟨m1, m2⟩ := cM_ok (h := h1) b1_lt n1 0 A.1 (tf_px S A.1) hS1 hg
          refine ⟨cM h1 b1 n1 A.1 (tf_px S A.1), tf_Fn_of (own := RX10) false ⟨by decide, rfl, by decide⟩ (Nat.le_of_ble_eq_true rfl) trivial (fun x hx hR => ?_), cs_f hA hC (nx_tr (nx_sx tf_sx_px) m2) m1, fc_nx (nx_tr (nx_sx tf_sx_px) m2)⟩
          show tf_K x 0 0 (tf_GG N) S 0 [some (.ref 4), some (.int (nI h1)), some (.int (nI b1)), some (.int (nI n1)), none, none] []
          refine tf_go hx ftX10_climb 1 [] 1 [some (.ref 4), some (.int (nI h1)), some (.int (nI b1)), some (.int (nI n1)), none, none] [.int (nI h1)] S rfl ⟨by decide, by decide, rfl⟩ trivial ?_
          refine tf_cS hx ftX10_climb (nx := 4) (As := [.int (nI h1)]) (rest := []) (st2 := [.int (if ¬ (nI h1) < 0 ∧ ¬ 4 ≤ (nI h1) then 0 else 1)]) (c_noHand (nI h1)) rfl lX10_122 rfl ⟨rfl, by decide, by decide, by decide, rfl, rfl⟩ ?_
          rw [if_pos c0]
          refine tf_go hx ftX10_climb 1 [false] 7 [some (.ref 4), some (.int (nI h1)), some (.int (nI b1)), some (.int (nI n1)), none, none] [] S rfl ⟨by decide, by decide, rfl⟩ ⟨trivial, (by decide)⟩ ?_
          refine tf_go hx ftX10_climb 1 [] 8 [some (.ref 4), some (.int (nI h1)), some (.int (nI b1)), some (.int (nI n1)), none, none] [.int (nI b1)] S rfl ⟨by decide, by decide, rfl⟩ trivial ?_
          refine tf_cS hx ftX10_climb (nx := 11) (As := [.int (nI b1)]) (rest := []) (st2 := [.int (if ¬ (nI b1) < 0 ∧ ¬ 4 ≤ (nI b1) then 0 else 1)]) (c_noBoard (nI b1)) rfl lX10_61 rfl ⟨rfl, by decide, by decide, by decide, rfl, rfl⟩ ?_
          rw [if_pos c1]
          refine tf_go hx ftX10_climb 1 [true] 20 [some (.ref 4), some (.int (nI h1)), some (.int (nI b1)), some (.int (nI n1)), none, none] [] S rfl ⟨by decide, by decide, rfl⟩ ⟨trivial, (by decide)⟩ ?_
          refine tf_go hx ftX10_climb 2 [] 22 [some (.ref 4), some (.int (nI h1)), some (.int (nI b1)), some (.int (nI n1)), none, none] [.int 1, .int (nI n1)] S rfl ⟨by decide, by decide, rfl⟩ trivial ?_
          refine tf_go hx ftX10_climb 1 [true] 32 [some (.ref 4), some (.int (nI h1)), some (.int (nI b1)), some (.int (nI n1)), none, none] [] S rfl ⟨by decide, by decide, rfl⟩ ⟨trivial, (Classical.not_not.mp e1)⟩ ?_
          refine tf_go hx ftX10_climb 2 [] 34 [some (.ref 4), some (.int (nI h1)), some (.int (nI b1)), some (.int (nI n1)), none, none] [.int 5, .int (nI n1)] S rfl ⟨by decide, by decide, rfl⟩ trivial ?_
          refine tf_go hx ftX10_climb 1 [true] 44 [some (.ref 4), some (.int (nI h1)), some (.int (nI b1)), some (.int (nI n1)), none, none] [] S rfl ⟨by decide, by decide, rfl⟩ ⟨trivial, (Classical.not_not.mp e2)⟩ ?_
          refine tf_go hx ftX10_climb 8 [] 62 [some (.ref 4), some (.int (nI h1)), some (.int (nI b1)), some (.int (nI n1)), none, none] [.ref 32, .ref 28, .ref 111] S rfl ⟨by decide, by decide, rfl⟩ ⟨⟨⟨⟨⟨trivial, ⟨by first | assumption | rfl | decide | omega | exact Nat.succ_ne_zero _, by first | assumption | rfl | decide | omega | exact Nat.succ_ne_zero _⟩⟩, ⟨by first | assumption | rfl | decide | omega | exact Nat.succ_ne_zero _, by first | assumption | rfl | decide | omega | exact Nat.succ_ne_zero _⟩⟩, ⟨by first | assumption | rfl | decide | omega | exact Nat.succ_ne_zero _, by first | assumption | rfl | decide | omega | exact Nat.succ_ne_zero _⟩⟩, ⟨by first | assumption | rfl | decide | omega | exact Nat.succ_ne_zero _, by first | assumption | rfl | decide | omega | exact Nat.succ_ne_zero _⟩⟩, ⟨by first | assumption | rfl | decide | omega | exact Nat.succ_ne_zero _, by first | assumption | rfl | decide | omega | exact Nat.succ_ne_zero _⟩⟩ ?_
          refine tf_cV hx ftX10_climb (nx := 65) (As := [.ref 28, .ref 32]) (rest := []) (st2 := []) (n_cut hS hg hb) rfl lX10_145 (by first | assumption | rfl | decide) rfl ⟨rfl, by decide, by decide, by decide, rfl, rfl⟩ ?_
          refine tf_go hx ftX10_climb 2 [] 68 [some (.ref 4), some (.int (nI h1)), some (.int (nI b1)), some (.int (nI n1)), some (.int 0), none] [] (tf_px S A.1) rfl ⟨by decide, by decide, rfl⟩ trivial ?_
          refine tf_fgt [some (.ref 4), some (.int (nI h1)), some (.int (nI b1)), some (.int (nI n1)), some (.int 0), none] (by simp [tf_lss]) ?_
          have loop : ∀ (m k : Nat) (F : Nat → Nat) (Y : tf_Sg), k + m = n1 → (tf_cm h1 b1 m k F = tf_cm h1 b1 n1 0 A.1) → (cM h1 b1 m F Y = cM h1 b1 n1 A.1 (tf_px S A.1)) → (tf_st Y 5 F) → (tf_gd F) → (∀ j, F j < 10000) → (tf_sV (tf_GG N) Y 118 40 (F 364) (fun j => nI (tf_hu F j))) → (∀ j, j < 10 → Y 1 j = nI (tf_fi j 0)) → tf_K x 0 0 (tf_GG N) Y 68 [some (.ref 4), some (.int (nI h1)), some (.int (nI b1)), some (.int (nI n1)), some (.int (nI k)), none] [] := by
            intro m
            induction m with
            | zero =>
              intro k F Y hk he hY hst hgF hF hH h1Y
              refine tf_go hx ftX10_climb 2 [] 71 [some (.ref 4), some (.int (nI h1)), some (.int (nI b1)), some (.int (nI n1)), some (.int (nI k)), none] [.int (nI n1), .int (nI k)] Y rfl ⟨by decide, by decide, rfl⟩ trivial ?_
              refine tf_go hx ftX10_climb 2 [true] 119 [some (.ref 4), some (.int (nI h1)), some (.int (nI b1)), some (.int (nI n1)), some (.int (nI k)), none] [.int (nI n1)] Y rfl ⟨by decide, by decide, rfl⟩ ⟨trivial, (tf_leT (a := n1) (b := k) rfl rfl (by omega) (by omega) (by omega))⟩ ?_
              exact tf_ret ftX10_climb hR rfl ⟨by decide, by decide⟩ rfl (by rw [← hY]; rfl) (by rw [← he, show n1 = k by omega]; rfl)
            | succ m ih =>
              intro k F Y hk he hY hst hgF hF hH h1Y
              rw [cM_s] at hY
              rw [tf_cm_s] at he
              refine tf_go hx ftX10_climb 2 [] 71 [some (.ref 4), some (.int (nI h1)), some (.int (nI b1)), some (.int (nI n1)), some (.int (nI k)), none] [.int (nI n1), .int (nI k)] Y rfl ⟨by decide, by decide, rfl⟩ trivial ?_
              refine tf_go hx ftX10_climb 1 [false] 74 [some (.ref 4), some (.int (nI h1)), some (.int (nI b1)), some (.int (nI n1)), some (.int (nI k)), none] [] Y rfl ⟨by decide, by decide, rfl⟩ ⟨trivial, (tf_leF (a := n1) (b := k) rfl rfl (by omega) (by omega) (by omega))⟩ ?_
              refine tf_go hx ftX10_climb 3 [] 77 [some (.ref 4), some (.int (nI h1)), some (.int (nI b1)), some (.int (nI n1)), some (.int (nI k)), none] [.int (nI b1), .int (nI h1), .ref 4] Y rfl ⟨by decide, by decide, rfl⟩ trivial ?_
              refine tf_cV hx ftX10_climb (nx := 80) (As := [.int (nI h1), .int (nI b1)]) (rest := []) (st2 := [.int (tf_on 3000 (tf_be F h1 b1))]) (n_best hst h1Y hgF hF hH h1_lt b1_lt) rfl lX10_172 (by first | assumption | rfl | decide) rfl ⟨rfl, by decide, by decide, by decide, rfl, rfl⟩ ?_
              refine tf_go hx ftX10_climb 1 [] 82 [some (.ref 4), some (.int (nI h1)), some (.int (nI b1)), some (.int (nI n1)), some (.int (nI k)), some (.int (tf_on 3000 (tf_be F h1 b1)))] [] (tf_lx Y F b1) rfl ⟨by decide, by decide, rfl⟩ trivial ?_
              by_cases d1 : tf_be F h1 b1 < 3000
              · rw [if_pos d1] at he hY
                rw [tf_on_y d1]
                have bo := (tf_be_ok F h1 b1).resolve_left (by omega)
                generalize tf_be F h1 b1 = q at *
                have hst2 : tf_st (tf_lx Y F b1) 5 F := nw_st hst hgF tf_sx_lx
                refine tf_go hx ftX10_climb 1 [] 84 [some (.ref 4), some (.int (nI h1)), some (.int (nI b1)), some (.int (nI n1)), some (.int (nI k)), some (.int (nI q))] [.int (nI q)] (tf_lx Y F b1) rfl ⟨by decide, by decide, rfl⟩ trivial ?_
                refine tf_go hx ftX10_climb 1 [true] 90 [some (.ref 4), some (.int (nI h1)), some (.int (nI b1)), some (.int (nI n1)), some (.int (nI k)), some (.int (nI q))] [] (tf_lx Y F b1) rfl ⟨by decide, by decide, rfl⟩ ⟨trivial, (tf_leT (a := 0) (b := q) (rfl : (0 : Int32) = nI 0) rfl (by omega) (by omega) (by omega))⟩ ?_
                have ar : tf_rf (tf_GG N) 6 (Int32.toNatClampNeg (nI b1)) = 7 + 3 * b1 := by rw [tf_cl_nI (by omega)]; exact (bdn b1_lt).2.2.2
                have arn : tf_rf (tf_GG N) 6 (Int32.toNatClampNeg (nI b1)) ≠ 0 := by rw [ar]; omega
                refine tf_go hx ftX10_climb 5 [] 99 [some (.ref 4), some (.int (nI h1)), some (.int (nI b1)), some (.int (nI n1)), some (.int (nI k)), some (.int (nI q))] [.ref (tf_rf (tf_GG N) 6 (Int32.toNatClampNeg (nI b1)))] (tf_lx Y F b1) rfl ⟨by decide, by decide, rfl⟩ ⟨⟨⟨trivial, ⟨by first | assumption | rfl | decide | omega | exact Nat.succ_ne_zero _, by first | assumption | rfl | decide | omega | exact Nat.succ_ne_zero _⟩⟩, ⟨by first | assumption | rfl | decide | omega | exact Nat.succ_ne_zero _, by first | assumption | rfl | decide | omega | exact Nat.succ_ne_zero _⟩⟩, ⟨by first | assumption | exact Or.inl rfl | exact Or.inr (Or.inl rfl) | exact Or.inr (Or.inr rfl) | omega, by exact tf_in (n := b1) (N := 4) rfl (by first | assumption | rfl) (by omega) (by decide), by first | assumption | rfl | decide | omega | exact Nat.succ_ne_zero _⟩⟩ ?_
                rw [ar]
                clear ar arn
                have tb : tf_tg (tf_GG N) (7 + 3 * b1) = 0 := (bdn b1_lt).1.1
                refine tf_go hx ftX10_climb 3 [] 104 [some (.ref 4), some (.int (nI h1)), some (.int (nI b1)), some (.int (nI n1)), some (.int (nI k)), some (.int (nI q))] [.int ((nI q) / 100), .ref (7 + 3 * b1)] (tf_lx Y F b1) rfl ⟨by decide, by decide, rfl⟩ ⟨trivial, (by decide)⟩ ?_
                rw [show ((nI q) / 100) = nI (q / 100) from (tf_div (a := q) (d := 100) rfl (rfl : (100 : Int32) = nI 100) (by omega) (by omega) (by omega))]
                refine tf_go hx ftX10_climb 3 [] 109 [some (.ref 4), some (.int (nI h1)), some (.int (nI b1)), some (.int (nI n1)), some (.int (nI k)), some (.int (nI q))] [.int ((nI q) - (nI q) / 100 * 100), .int (nI (q / 100)), .ref (7 + 3 * b1)] (tf_lx Y F b1) rfl ⟨by decide, by decide, rfl⟩ ⟨trivial, (by decide)⟩ ?_
                rw [show ((nI q) - (nI q) / 100 * 100) = nI (q % 100) from (tf_rem (a := q) (d := 100) rfl (rfl : (100 : Int32) = nI 100) (by omega) (by omega) (by omega))]
                refine tf_cV hx ftX10_climb (nx := 112) (As := [.int (nI (q / 100)), .int (nI (q % 100))]) (rest := []) (st2 := []) (n_swap hst2 hgF b1_lt (by omega) (by omega)) rfl lX10_168 (by first | assumption | rfl | decide) rfl ⟨rfl, by decide, by decide, by decide, rfl, rfl⟩ ?_
                refine tf_go hx ftX10_climb 2 [] 68 [some (.ref 4), some (.int (nI h1)), some (.int (nI b1)), some (.int (nI n1)), some (.int ((nI k) + 1)), some (.int (nI q))] [] (tf_bp (tf_lx Y F b1) (8 + 3 * b1) (9 + 3 * b1) (tf_pe (fun k => F (30 * b1 + k)) (q / 100) (q % 100))) rfl ⟨by decide, by decide, rfl⟩ trivial ?_
                rw [show ((nI k) + 1) = nI (k + 1) from (tf_add (a := k) (b := 1) rfl (rfl : (1 : Int32) = nI 1))]
                refine tf_fgt [some (.ref 4), some (.int (nI h1)), some (.int (nI b1)), some (.int (nI n1)), some (.int (nI (k + 1))), none] (by simp [tf_lss]) ?_
                have ex : ∀ j, 120 ≤ j → tf_ex F b1 (q / 100) (q % 100) j = F j := fun j hj => tf_ex_hi b1_lt (by omega) (by omega) hj
                have hH2 : tf_sV (tf_GG N) (tf_bp (tf_lx Y F b1) (8 + 3 * b1) (9 + 3 * b1) (tf_pe (fun k => F (30 * b1 + k)) (q / 100) (q % 100))) 118 40 (tf_ex F b1 (q / 100) (q % 100) 364) (fun j => nI (tf_hu (tf_ex F b1 (q / 100) (q % 100)) j)) := by rw [ex 364 (by omega), show (fun j => nI (tf_hu (tf_ex F b1 (q / 100) (q % 100)) j)) = fun j => nI (tf_hu F j) from funext fun j => by rw [tf_hu_c ex]]; exact tf_sV_fr (nw_H4x hH) (tf_bp_n (by omega) (by omega)) (tf_bp_n (by show 119 ≠ _; omega) (by show 119 ≠ _; omega))
                have h1Z : ∀ j, j < 10 → (tf_bp (tf_lx Y F b1) (8 + 3 * b1) (9 + 3 * b1) (tf_pe (fun k => F (30 * b1 + k)) (q / 100) (q % 100))) 1 j = nI (tf_fi j 0) := by rw [tf_bp_n (by omega) (by omega)]; exact nw_1 h1Y tf_sx_lx
                exact ih (k + 1) (tf_ex F b1 (q / 100) (q % 100)) (tf_bp (tf_lx Y F b1) (8 + 3 * b1) (9 + 3 * b1) (tf_pe (fun k => F (30 * b1 + k)) (q / 100) (q % 100))) (by omega) he hY (st_swap hst2 hgF b1_lt (by omega) (by omega)) (tf_ex_gd hgF b1_lt (by omega) (by omega)) (tf_ex_le hF) hH2 h1Z
              · rw [if_neg d1] at he hY
                rw [tf_on_n d1]
                refine tf_go hx ftX10_climb 1 [] 84 [some (.ref 4), some (.int (nI h1)), some (.int (nI b1)), some (.int (nI n1)), some (.int (nI k)), some (.int (-9))] [.int (-9)] (tf_lx Y F b1) rfl ⟨by decide, by decide, rfl⟩ trivial ?_
                refine tf_go hx ftX10_climb 1 [false] 87 [some (.ref 4), some (.int (nI h1)), some (.int (nI b1)), some (.int (nI n1)), some (.int (nI k)), some (.int (-9))] [] (tf_lx Y F b1) rfl ⟨by decide, by decide, rfl⟩ ⟨trivial, (by decide)⟩ ?_
                refine tf_go hx ftX10_climb 1 [] 89 [some (.ref 4), some (.int (nI h1)), some (.int (nI b1)), some (.int (nI n1)), some (.int (nI k)), some (.int (-9))] [.int (nI k)] (tf_lx Y F b1) rfl ⟨by decide, by decide, rfl⟩ trivial ?_
                exact tf_ret ftX10_climb hR rfl ⟨by decide, by decide⟩ rfl hY (by rw [← he]; rfl)
          exact loop n1 0 A.1 (tf_px S A.1) (by omega) rfl rfl hS1 hg hb (nw_H4 g1) (nw_1 h1j tf_sx_px)
    · rw [if_neg (fun h => c1 h.2)]
      refine ⟨tf_set S 124 1 (S 124 1 + 1), tf_Fn_of (own := RX10) false ⟨by decide, rfl, by decide⟩ (Nat.le_of_ble_eq_true rfl) trivial (fun x hx hR => ?_), cs_ref hA hC 1, fc_set (by omega)⟩
      show tf_K x 0 0 (tf_GG N) S 0 [some (.ref 4), some (.int h), some (.int b), some (.int n), none, none] []
      refine tf_go hx ftX10_climb 1 [] 1 [some (.ref 4), some (.int h), some (.int b), some (.int n), none, none] [.int h] S rfl ⟨by decide, by decide, rfl⟩ trivial ?_
      refine tf_cS hx ftX10_climb (nx := 4) (As := [.int h]) (rest := []) (st2 := [.int (if ¬ h < 0 ∧ ¬ 4 ≤ h then 0 else 1)]) (c_noHand h) rfl lX10_122 rfl ⟨rfl, by decide, by decide, by decide, rfl, rfl⟩ ?_
      rw [if_pos c0]
      refine tf_go hx ftX10_climb 1 [false] 7 [some (.ref 4), some (.int h), some (.int b), some (.int n), none, none] [] S rfl ⟨by decide, by decide, rfl⟩ ⟨trivial, (by decide)⟩ ?_
      refine tf_go hx ftX10_climb 1 [] 8 [some (.ref 4), some (.int h), some (.int b), some (.int n), none, none] [.int b] S rfl ⟨by decide, by decide, rfl⟩ trivial ?_
      refine tf_cS hx ftX10_climb (nx := 11) (As := [.int b]) (rest := []) (st2 := [.int (if ¬ b < 0 ∧ ¬ 4 ≤ b then 0 else 1)]) (c_noBoard b) rfl lX10_61 rfl ⟨rfl, by decide, by decide, by decide, rfl, rfl⟩ ?_
      rw [if_neg c1]
      refine tf_go hx ftX10_climb 1 [false] 14 [some (.ref 4), some (.int h), some (.int b), some (.int n), none, none] [] S rfl ⟨by decide, by decide, rfl⟩ ⟨trivial, (by decide)⟩ ?_
      refine tf_go hx ftX10_climb 2 [] 16 [some (.ref 4), some (.int h), some (.int b), some (.int n), none, none] [.int (-1), .ref 4] S rfl ⟨by decide, by decide, rfl⟩ trivial ?_
      refine tf_cV hx ftX10_climb (nx := 19) (As := [.int (-1)]) (rest := []) (st2 := [.int (-1)]) (n_ref1) rfl lX10_50 (by first | assumption | rfl | decide) rfl ⟨rfl, by decide, by decide, by decide, rfl, rfl⟩ ?_
      exact tf_ret ftX10_climb hR rfl ⟨by decide, by decide⟩ rfl rfl rfl
  · rw [if_neg (fun h => c0 h.1)]
    refine ⟨tf_set S 124 1 (S 124 1 + 1), tf_Fn_of (own := RX10) false ⟨by decide, rfl, by decide⟩ (Nat.le_of_ble_eq_true rfl) trivial (fun x hx hR => ?_), cs_ref hA hC 1, fc_set (by omega)⟩
    show tf_K x 0 0 (tf_GG N) S 0 [some (.ref 4), some (.int h), some (.int b), some (.int n), none, none] []
    refine tf_go hx ftX10_climb 1 [] 1 [some (.ref 4), some (.int h), some (.int b), some (.int n), none, none] [.int h] S rfl ⟨by decide, by decide, rfl⟩ trivial ?_
    refine tf_cS hx ftX10_climb (nx := 4) (As := [.int h]) (rest := []) (st2 := [.int (if ¬ h < 0 ∧ ¬ 4 ≤ h then 0 else 1)]) (c_noHand h) rfl lX10_122 rfl ⟨rfl, by decide, by decide, by decide, rfl, rfl⟩ ?_
    rw [if_neg c0]
    refine tf_go hx ftX10_climb 1 [true] 14 [some (.ref 4), some (.int h), some (.int b), some (.int n), none, none] [] S rfl ⟨by decide, by decide, rfl⟩ ⟨trivial, (by decide)⟩ ?_
    refine tf_go hx ftX10_climb 2 [] 16 [some (.ref 4), some (.int h), some (.int b), some (.int n), none, none] [.int (-1), .ref 4] S rfl ⟨by decide, by decide, rfl⟩ trivial ?_
    refine tf_cV hx ftX10_climb (nx := 19) (As := [.int (-1)]) (rest := []) (st2 := [.int (-1)]) (n_ref1) rfl lX10_50 (by first | assumption | rfl | decide) rfl ⟨rfl, by decide, by decide, by decide, rfl, rfl⟩ ?_
    exact tf_ret ftX10_climb hR rfl ⟨by decide, by decide⟩ rfl rfl rfl

theorem cs_image {S : tf_Sg} {A : tf_A} (hA : tf_okA A) (hC : tf_cs S A) : tf_cs (tf_set (cA S 57 5 A.1) 4 6 1) (A.1, A.2.1, A.2.2.1, A.2.2.2.1, tf_mx A.1 A.2.2.2.2.1 368, 1) := by
  obtain ⟨h1, h2, h3, ⟨h4, h5⟩, h6, h7⟩ := hC
  have e : ∀ a, a ≠ 4 → (a < 57 ∨ 109 ≤ a) → tf_set (cA S 57 5 A.1) 4 6 1 a = S a := fun a h8 h9 => by rw [tf_set_n h8]; exact cA_fr (by omega)
  have k : tf_st (tf_set (cA S 57 5 A.1) 4 6 1) 57 A.1 := tf_st_c (cA_st (Or.inr (by omega)) hA.1 h2) hA.1 (fun a h8 h9 => tf_set_n (by omega))
  refine ⟨by rw [e 1 (by omega) (by omega)]; exact h1, tf_st_c h2 hA.1 (fun a h8 h9 => e a (by omega) (by omega)), fun _ => st_cf hA.1 (fun j hj => if_pos hj) k, ⟨by rw [e 109 (by omega) (by omega)]; exact h4, by rw [e 110 (by omega) (by omega)]; exact h5⟩, by rw [e 124 (by omega) (by omega)]; exact h6, tf_set_s⟩

set_option maxHeartbeats 2000000 in
theorem c_image {N : Nat} {S : tf_Sg} {A : tf_A}  (hA : tf_okA A) (hC : tf_cs S A)  : tf_cpq mX10_image 5 N S [.ref 4] (s_image A) := by
  obtain ⟨hg, hb, hA3, hA4, hA5, hA6⟩ := id hA
  obtain ⟨h1j, hS, hK5, ⟨hT1, hT2⟩, hRf, hIm⟩ := id hC
  obtain ⟨⟨g1, g2, g3, g4⟩, g5, g6, g7, g8, g9, g10, g11⟩ := id hg
  unfold s_image
  have hS2 : tf_st (tf_set (cA S 57 5 A.1) 4 6 1) 5 A.1 := (cs_image hA hC).2.1
  refine ⟨tf_set (cA S 57 5 A.1) 4 6 1, tf_Fn_of (own := RX10) false ⟨by decide, rfl, by decide⟩ (Nat.le_of_ble_eq_true rfl) trivial (fun x hx hR => ?_), cs_image hA hC, fc_tr (fun a ha => cA_fr (by omega)) (fc_set (by omega))⟩
  show tf_K x 0 0 (tf_GG N) S 0 [some (.ref 4)] []
  refine tf_go hx ftX10_image 4 [] 8 [some (.ref 4)] [.ref 5, .ref 57] S rfl ⟨by decide, by decide, rfl⟩ ⟨⟨trivial, ⟨by first | assumption | rfl | decide | omega | exact Nat.succ_ne_zero _, by first | assumption | rfl | decide | omega | exact Nat.succ_ne_zero _⟩⟩, ⟨by first | assumption | rfl | decide | omega | exact Nat.succ_ne_zero _, by first | assumption | rfl | decide | omega | exact Nat.succ_ne_zero _⟩⟩ ?_
  refine tf_cV hx ftX10_image (nx := 11) (As := [.ref 5]) (rest := []) (st2 := []) (s_copyk hS hg) rfl lX10_208 (by first | assumption | rfl | decide) rfl ⟨rfl, by decide, by decide, by decide, rfl, rfl⟩ ?_
  refine tf_go hx ftX10_image 2 [] 13 [some (.ref 4)] [.int 1, .ref 4] (cA S 57 5 A.1) rfl ⟨by decide, by decide, rfl⟩ trivial ?_
  refine tf_go hx ftX10_image 1 [] 16 [some (.ref 4)] [] (tf_set (cA S 57 5 A.1) 4 6 1) rfl ⟨by decide, by decide, rfl⟩ ⟨trivial, ⟨by first | assumption | rfl | decide | omega | exact Nat.succ_ne_zero _, by first | exact Or.inl rfl | exact Or.inr rfl⟩⟩ ?_
  refine tf_go hx ftX10_image 3 [] 23 [some (.ref 4)] [.ref 32] (tf_set (cA S 57 5 A.1) 4 6 1) rfl ⟨by decide, by decide, rfl⟩ ⟨⟨trivial, ⟨by first | assumption | rfl | decide | omega | exact Nat.succ_ne_zero _, by first | assumption | rfl | decide | omega | exact Nat.succ_ne_zero _⟩⟩, ⟨by first | assumption | rfl | decide | omega | exact Nat.succ_ne_zero _, by first | assumption | rfl | decide | omega | exact Nat.succ_ne_zero _⟩⟩ ?_
  refine tf_cV hx ftX10_image (nx := 26) (As := []) (rest := []) (st2 := [.int (nI (A.1 366))]) (w_size (nw_V hS2) hg hb) rfl lX10_101 (by first | assumption | rfl | decide) rfl ⟨rfl, by decide, by decide, by decide, rfl, rfl⟩ ?_
  exact tf_ret ftX10_image hR rfl ⟨by decide, by decide⟩ rfl rfl rfl

set_option maxHeartbeats 2000000 in
theorem c_on {N : Nat} {S : tf_Sg} {A : tf_A}  (hA : tf_okA A) (hC : tf_cs S A)  : tf_cpq mX10_on 5 N S [.ref 4] (s_on A) := by
  obtain ⟨hg, hb, hA3, hA4, hA5, hA6⟩ := id hA
  obtain ⟨h1j, hS, hK5, ⟨hT1, hT2⟩, hRf, hIm⟩ := id hC
  obtain ⟨⟨g1, g2, g3, g4⟩, g5, g6, g7, g8, g9, g10, g11⟩ := id hg
  unfold s_on
  by_cases e1 : A.2.2.2.2.2 = 0
  · rw [if_pos e1]
    refine ⟨tf_set S 124 3 (S 124 3 + 1), tf_Fn_of (own := RX10) false ⟨by decide, rfl, by decide⟩ (Nat.le_of_ble_eq_true rfl) trivial (fun x hx hR => ?_), cs_ref hA hC 3, fc_set (by omega)⟩
    show tf_K x 0 0 (tf_GG N) S 0 [some (.ref 4)] []
    refine tf_go hx ftX10_on 2 [] 4 [some (.ref 4)] [.int (S 4 6)] S rfl ⟨by decide, by decide, rfl⟩ ⟨trivial, (by first | assumption | rfl | decide | omega | exact Nat.succ_ne_zero _)⟩ ?_
    rw [show S 4 6 = 0 by rw [hIm, e1]; rfl]
    refine tf_go hx ftX10_on 1 [false] 7 [some (.ref 4)] [] S rfl ⟨by decide, by decide, rfl⟩ ⟨trivial, (fun h => h rfl)⟩ ?_
    refine tf_go hx ftX10_on 2 [] 10 [some (.ref 4)] [.int (-3), .ref 4] S rfl ⟨by decide, by decide, rfl⟩ trivial ?_
    refine tf_cV hx ftX10_on (nx := 13) (As := [.int (-3)]) (rest := []) (st2 := [.int (-3)]) (n_ref3) rfl lX10_50 (by first | assumption | rfl | decide) rfl ⟨rfl, by decide, by decide, by decide, rfl, rfl⟩ ?_
    exact tf_ret ftX10_on hR rfl ⟨by decide, by decide⟩ rfl rfl rfl
  · rw [if_neg e1]
    have e2 : A.2.2.2.2.2 = 1 := by rcases hA6 with h | h; exact absurd h e1; exact h.1
    have hgg : tf_gd A.2.2.2.2.1 := by rcases hA6 with h | h; exact absurd h e1; exact h.2
    have hKp := hK5 e2
    have hS2 : tf_st (cA S 5 57 A.2.2.2.2.1) 5 A.2.2.2.2.1 := cA_st (Or.inl (by omega)) hgg hKp
    have hnx : tf_nx S (cA S 5 57 A.2.2.2.2.1) := fun a ha => cA_fr (by omega)
    refine ⟨cA S 5 57 A.2.2.2.2.1, tf_Fn_of (own := RX10) false ⟨by decide, rfl, by decide⟩ (Nat.le_of_ble_eq_true rfl) trivial (fun x hx hR => ?_), cs_f hA hC hnx (st_cf hgg (fun j hj => if_pos hj) hS2), fc_nx hnx⟩
    show tf_K x 0 0 (tf_GG N) S 0 [some (.ref 4)] []
    refine tf_go hx ftX10_on 2 [] 4 [some (.ref 4)] [.int (S 4 6)] S rfl ⟨by decide, by decide, rfl⟩ ⟨trivial, (by first | assumption | rfl | decide | omega | exact Nat.succ_ne_zero _)⟩ ?_
    rw [show S 4 6 = 1 by rw [hIm, e2]; rfl]
    refine tf_go hx ftX10_on 1 [true] 14 [some (.ref 4)] [] S rfl ⟨by decide, by decide, rfl⟩ ⟨trivial, (by decide)⟩ ?_
    refine tf_go hx ftX10_on 4 [] 22 [some (.ref 4)] [.ref 57, .ref 5] S rfl ⟨by decide, by decide, rfl⟩ ⟨⟨trivial, ⟨by first | assumption | rfl | decide | omega | exact Nat.succ_ne_zero _, by first | assumption | rfl | decide | omega | exact Nat.succ_ne_zero _⟩⟩, ⟨by first | assumption | rfl | decide | omega | exact Nat.succ_ne_zero _, by first | assumption | rfl | decide | omega | exact Nat.succ_ne_zero _⟩⟩ ?_
    refine tf_cV hx ftX10_on (nx := 25) (As := [.ref 57]) (rest := []) (st2 := []) (s_copyn hKp hgg) rfl lX10_208 (by first | assumption | rfl | decide) rfl ⟨rfl, by decide, by decide, by decide, rfl, rfl⟩ ?_
    refine tf_go hx ftX10_on 3 [] 32 [some (.ref 4)] [.ref 32] (cA S 5 57 A.2.2.2.2.1) rfl ⟨by decide, by decide, rfl⟩ ⟨⟨trivial, ⟨by first | assumption | rfl | decide | omega | exact Nat.succ_ne_zero _, by first | assumption | rfl | decide | omega | exact Nat.succ_ne_zero _⟩⟩, ⟨by first | assumption | rfl | decide | omega | exact Nat.succ_ne_zero _, by first | assumption | rfl | decide | omega | exact Nat.succ_ne_zero _⟩⟩ ?_
    refine tf_cV hx ftX10_on (nx := 35) (As := []) (rest := []) (st2 := [.int (nI (A.2.2.2.2.1 366))]) (w_size (nw_V hS2) hgg hA5) rfl lX10_101 (by first | assumption | rfl | decide) rfl ⟨rfl, by decide, by decide, by decide, rfl, rfl⟩ ?_
    exact tf_ret ftX10_on hR rfl ⟨by decide, by decide⟩ rfl rfl rfl

