set_option maxHeartbeats 2000000 in
theorem c_law {N : Nat} {S : tf_Sg} {A : tf_A} (h l v : Int32) (hA : tf_okA A) (hC : tf_cs S A)  : tf_cpq mX10_law 2 N S [.ref 4, .int h, .int l, .int v] (s_law A h l v) := by
  obtain ⟨hg, hb, hA3, hA4, hA5, hA6⟩ := id hA
  obtain ⟨h1j, hS, hK5, ⟨hT1, hT2⟩, hRf, hIm⟩ := id hC
  obtain ⟨⟨g1, g2, g3, g4⟩, g5, g6, g7, g8, g9, g10, g11⟩ := id hg
  unfold s_law
  by_cases c0 : ¬ h < 0 ∧ ¬ 4 ≤ h
  · by_cases c1 : ¬ l < 0 ∧ ¬ 6 ≤ l
    · rw [if_pos ⟨c0, c1⟩]
      obtain ⟨h1, h1_lt, h1_eq, h1_cl⟩ := tf_ok_nI (N := 4) (show tf_ok h _ from c0) rfl (by decide)
      try rw [h1_cl]
      obtain ⟨l1, l1_lt, l1_eq, l1_cl⟩ := tf_ok_nI (N := 6) (show tf_ok l _ from c1) rfl (by decide)
      try rw [l1_cl]
      subst h1_eq
      subst l1_eq
      by_cases e1 : ¬ 0 ≤ v
      · rw [if_pos e1]
        refine ⟨tf_set S 124 4 (S 124 4 + 1), tf_Fn_of (own := RX10) false ⟨by decide, rfl, by decide⟩ (Nat.le_of_ble_eq_true rfl) trivial (fun x hx hR => ?_), cs_ref hA hC 4, fc_set (by omega)⟩
        show tf_K x 0 0 (tf_GG N) S 0 [some (.ref 4), some (.int (nI h1)), some (.int (nI l1)), some (.int v)] []
        refine tf_go hx ftX10_law 1 [] 1 [some (.ref 4), some (.int (nI h1)), some (.int (nI l1)), some (.int v)] [.int (nI h1)] S rfl ⟨by decide, by decide, rfl⟩ trivial ?_
        refine tf_cS hx ftX10_law (nx := 4) (As := [.int (nI h1)]) (rest := []) (st2 := [.int (if ¬ (nI h1) < 0 ∧ ¬ 4 ≤ (nI h1) then 0 else 1)]) (c_noHand (nI h1)) rfl lX10_122 rfl ⟨rfl, by decide, by decide, by decide, rfl, rfl⟩ ?_
        rw [if_pos c0]
        refine tf_go hx ftX10_law 1 [false] 7 [some (.ref 4), some (.int (nI h1)), some (.int (nI l1)), some (.int v)] [] S rfl ⟨by decide, by decide, rfl⟩ ⟨trivial, (by decide)⟩ ?_
        refine tf_go hx ftX10_law 1 [] 8 [some (.ref 4), some (.int (nI h1)), some (.int (nI l1)), some (.int v)] [.int (nI l1)] S rfl ⟨by decide, by decide, rfl⟩ trivial ?_
        refine tf_go hx ftX10_law 1 [false] 11 [some (.ref 4), some (.int (nI h1)), some (.int (nI l1)), some (.int v)] [] S rfl ⟨by decide, by decide, rfl⟩ ⟨trivial, (tf_ltF (a := l1) (b := 0) rfl (rfl : (0 : Int32) = nI 0) (by omega) (by omega) (by omega))⟩ ?_
        refine tf_go hx ftX10_law 2 [] 14 [some (.ref 4), some (.int (nI h1)), some (.int (nI l1)), some (.int v)] [.int 6, .int (nI l1)] S rfl ⟨by decide, by decide, rfl⟩ trivial ?_
        refine tf_go hx ftX10_law 1 [true] 23 [some (.ref 4), some (.int (nI h1)), some (.int (nI l1)), some (.int v)] [] S rfl ⟨by decide, by decide, rfl⟩ ⟨trivial, (tf_ltT (a := l1) (b := 6) rfl (rfl : (6 : Int32) = nI 6) (by omega) (by omega) (by omega))⟩ ?_
        refine tf_go hx ftX10_law 1 [] 24 [some (.ref 4), some (.int (nI h1)), some (.int (nI l1)), some (.int v)] [.int v] S rfl ⟨by decide, by decide, rfl⟩ trivial ?_
        refine tf_go hx ftX10_law 1 [false] 27 [some (.ref 4), some (.int (nI h1)), some (.int (nI l1)), some (.int v)] [] S rfl ⟨by decide, by decide, rfl⟩ ⟨trivial, e1⟩ ?_
        refine tf_go hx ftX10_law 2 [] 30 [some (.ref 4), some (.int (nI h1)), some (.int (nI l1)), some (.int v)] [.int (-4), .ref 4] S rfl ⟨by decide, by decide, rfl⟩ trivial ?_
        refine tf_cV hx ftX10_law (nx := 33) (As := [.int (-4)]) (rest := []) (st2 := [.int (-4)]) (n_ref4) rfl lX10_50 (by first | assumption | rfl | decide) rfl ⟨rfl, by decide, by decide, by decide, rfl, rfl⟩ ?_
        exact tf_ret ftX10_law hR rfl ⟨by decide, by decide⟩ rfl rfl rfl
      · by_cases e2 : ¬ v ≤ 999
        · rw [if_neg e1, if_pos e2]
          refine ⟨tf_set S 124 6 (S 124 6 + 1), tf_Fn_of (own := RX10) false ⟨by decide, rfl, by decide⟩ (Nat.le_of_ble_eq_true rfl) trivial (fun x hx hR => ?_), cs_ref hA hC 6, fc_set (by omega)⟩
          show tf_K x 0 0 (tf_GG N) S 0 [some (.ref 4), some (.int (nI h1)), some (.int (nI l1)), some (.int v)] []
          refine tf_go hx ftX10_law 1 [] 1 [some (.ref 4), some (.int (nI h1)), some (.int (nI l1)), some (.int v)] [.int (nI h1)] S rfl ⟨by decide, by decide, rfl⟩ trivial ?_
          refine tf_cS hx ftX10_law (nx := 4) (As := [.int (nI h1)]) (rest := []) (st2 := [.int (if ¬ (nI h1) < 0 ∧ ¬ 4 ≤ (nI h1) then 0 else 1)]) (c_noHand (nI h1)) rfl lX10_122 rfl ⟨rfl, by decide, by decide, by decide, rfl, rfl⟩ ?_
          rw [if_pos c0]
          refine tf_go hx ftX10_law 1 [false] 7 [some (.ref 4), some (.int (nI h1)), some (.int (nI l1)), some (.int v)] [] S rfl ⟨by decide, by decide, rfl⟩ ⟨trivial, (by decide)⟩ ?_
          refine tf_go hx ftX10_law 1 [] 8 [some (.ref 4), some (.int (nI h1)), some (.int (nI l1)), some (.int v)] [.int (nI l1)] S rfl ⟨by decide, by decide, rfl⟩ trivial ?_
          refine tf_go hx ftX10_law 1 [false] 11 [some (.ref 4), some (.int (nI h1)), some (.int (nI l1)), some (.int v)] [] S rfl ⟨by decide, by decide, rfl⟩ ⟨trivial, (tf_ltF (a := l1) (b := 0) rfl (rfl : (0 : Int32) = nI 0) (by omega) (by omega) (by omega))⟩ ?_
          refine tf_go hx ftX10_law 2 [] 14 [some (.ref 4), some (.int (nI h1)), some (.int (nI l1)), some (.int v)] [.int 6, .int (nI l1)] S rfl ⟨by decide, by decide, rfl⟩ trivial ?_
          refine tf_go hx ftX10_law 1 [true] 23 [some (.ref 4), some (.int (nI h1)), some (.int (nI l1)), some (.int v)] [] S rfl ⟨by decide, by decide, rfl⟩ ⟨trivial, (tf_ltT (a := l1) (b := 6) rfl (rfl : (6 : Int32) = nI 6) (by omega) (by omega) (by omega))⟩ ?_
          refine tf_go hx ftX10_law 1 [] 24 [some (.ref 4), some (.int (nI h1)), some (.int (nI l1)), some (.int v)] [.int v] S rfl ⟨by decide, by decide, rfl⟩ trivial ?_
          refine tf_go hx ftX10_law 1 [true] 34 [some (.ref 4), some (.int (nI h1)), some (.int (nI l1)), some (.int v)] [] S rfl ⟨by decide, by decide, rfl⟩ ⟨trivial, (Classical.not_not.mp e1)⟩ ?_
          refine tf_go hx ftX10_law 2 [] 38 [some (.ref 4), some (.int (nI h1)), some (.int (nI l1)), some (.int v)] [.int 999, .int v] S rfl ⟨by decide, by decide, rfl⟩ trivial ?_
          refine tf_go hx ftX10_law 1 [false] 41 [some (.ref 4), some (.int (nI h1)), some (.int (nI l1)), some (.int v)] [] S rfl ⟨by decide, by decide, rfl⟩ ⟨trivial, e2⟩ ?_
          refine tf_go hx ftX10_law 2 [] 44 [some (.ref 4), some (.int (nI h1)), some (.int (nI l1)), some (.int v)] [.int (-6), .ref 4] S rfl ⟨by decide, by decide, rfl⟩ trivial ?_
          refine tf_cV hx ftX10_law (nx := 47) (As := [.int (-6)]) (rest := []) (st2 := [.int (-6)]) (n_ref6) rfl lX10_50 (by first | assumption | rfl | decide) rfl ⟨rfl, by decide, by decide, by decide, rfl, rfl⟩ ?_
          exact tf_ret ftX10_law hR rfl ⟨by decide, by decide⟩ rfl rfl rfl
        · rw [if_neg e1, if_neg e2]
          obtain ⟨v1, v1_le, v1_eq⟩ := nI_of2 (M := 999) (n := 999) (x := v) (by decide) (fun h => e1 (fun h2 => absurd h (Int32.not_lt.mpr h2))) (Classical.not_not.mp e2)
          have v1_cl : v.toNatClampNeg = v1 := by rw [v1_eq]; exact tf_cl_nI (by omega)
          try rw [v1_cl]
          subst v1_eq
          have lv : S (21 + 2 * h1) l1 = nI (A.1 (120 + 6 * h1 + l1)) := hS.2.1 h1 h1_lt l1 l1_lt
          refine ⟨tf_set S (21 + 2 * h1) l1 (nI v1), tf_Fn_of (own := RX10) false ⟨by decide, rfl, by decide⟩ (Nat.le_of_ble_eq_true rfl) trivial (fun x hx hR => ?_), cs_f hA hC (nx_set (by omega)) (st_law hS hg h1_lt l1_lt), fc_set (by omega)⟩
          show tf_K x 0 0 (tf_GG N) S 0 [some (.ref 4), some (.int (nI h1)), some (.int (nI l1)), some (.int (nI v1))] []
          refine tf_go hx ftX10_law 1 [] 1 [some (.ref 4), some (.int (nI h1)), some (.int (nI l1)), some (.int (nI v1))] [.int (nI h1)] S rfl ⟨by decide, by decide, rfl⟩ trivial ?_
          refine tf_cS hx ftX10_law (nx := 4) (As := [.int (nI h1)]) (rest := []) (st2 := [.int (if ¬ (nI h1) < 0 ∧ ¬ 4 ≤ (nI h1) then 0 else 1)]) (c_noHand (nI h1)) rfl lX10_122 rfl ⟨rfl, by decide, by decide, by decide, rfl, rfl⟩ ?_
          rw [if_pos c0]
          refine tf_go hx ftX10_law 1 [false] 7 [some (.ref 4), some (.int (nI h1)), some (.int (nI l1)), some (.int (nI v1))] [] S rfl ⟨by decide, by decide, rfl⟩ ⟨trivial, (by decide)⟩ ?_
          refine tf_go hx ftX10_law 1 [] 8 [some (.ref 4), some (.int (nI h1)), some (.int (nI l1)), some (.int (nI v1))] [.int (nI l1)] S rfl ⟨by decide, by decide, rfl⟩ trivial ?_
          refine tf_go hx ftX10_law 1 [false] 11 [some (.ref 4), some (.int (nI h1)), some (.int (nI l1)), some (.int (nI v1))] [] S rfl ⟨by decide, by decide, rfl⟩ ⟨trivial, (tf_ltF (a := l1) (b := 0) rfl (rfl : (0 : Int32) = nI 0) (by omega) (by omega) (by omega))⟩ ?_
          refine tf_go hx ftX10_law 2 [] 14 [some (.ref 4), some (.int (nI h1)), some (.int (nI l1)), some (.int (nI v1))] [.int 6, .int (nI l1)] S rfl ⟨by decide, by decide, rfl⟩ trivial ?_
          refine tf_go hx ftX10_law 1 [true] 23 [some (.ref 4), some (.int (nI h1)), some (.int (nI l1)), some (.int (nI v1))] [] S rfl ⟨by decide, by decide, rfl⟩ ⟨trivial, (tf_ltT (a := l1) (b := 6) rfl (rfl : (6 : Int32) = nI 6) (by omega) (by omega) (by omega))⟩ ?_
          refine tf_go hx ftX10_law 1 [] 24 [some (.ref 4), some (.int (nI h1)), some (.int (nI l1)), some (.int (nI v1))] [.int (nI v1)] S rfl ⟨by decide, by decide, rfl⟩ trivial ?_
          refine tf_go hx ftX10_law 1 [true] 34 [some (.ref 4), some (.int (nI h1)), some (.int (nI l1)), some (.int (nI v1))] [] S rfl ⟨by decide, by decide, rfl⟩ ⟨trivial, (tf_leT (a := 0) (b := v1) (rfl : (0 : Int32) = nI 0) rfl (by omega) (by omega) (by omega))⟩ ?_
          refine tf_go hx ftX10_law 2 [] 38 [some (.ref 4), some (.int (nI h1)), some (.int (nI l1)), some (.int (nI v1))] [.int 999, .int (nI v1)] S rfl ⟨by decide, by decide, rfl⟩ trivial ?_
          refine tf_go hx ftX10_law 1 [true] 48 [some (.ref 4), some (.int (nI h1)), some (.int (nI l1)), some (.int (nI v1))] [] S rfl ⟨by decide, by decide, rfl⟩ ⟨trivial, (tf_leT (a := v1) (b := 999) rfl (rfl : (999 : Int32) = nI 999) (by omega) (by omega) (by omega))⟩ ?_
          have ar : tf_rf (tf_GG N) 19 (Int32.toNatClampNeg (nI h1)) = 20 + 2 * h1 := by rw [tf_cl_nI (by omega)]; exact (hdn h1_lt).2.2
          have arn : tf_rf (tf_GG N) 19 (Int32.toNatClampNeg (nI h1)) ≠ 0 := by rw [ar]; omega
          refine tf_go hx ftX10_law 5 [] 57 [some (.ref 4), some (.int (nI h1)), some (.int (nI l1)), some (.int (nI v1))] [.ref (tf_rf (tf_GG N) 19 (Int32.toNatClampNeg (nI h1)))] S rfl ⟨by decide, by decide, rfl⟩ ⟨⟨⟨trivial, ⟨by first | assumption | rfl | decide | omega | exact Nat.succ_ne_zero _, by first | assumption | rfl | decide | omega | exact Nat.succ_ne_zero _⟩⟩, ⟨by first | assumption | rfl | decide | omega | exact Nat.succ_ne_zero _, by first | assumption | rfl | decide | omega | exact Nat.succ_ne_zero _⟩⟩, ⟨by first | assumption | exact Or.inl rfl | exact Or.inr (Or.inl rfl) | exact Or.inr (Or.inr rfl) | omega, by exact tf_in (n := h1) (N := 4) rfl (by first | assumption | rfl) (by omega) (by decide), by first | assumption | rfl | decide | omega | exact Nat.succ_ne_zero _⟩⟩ ?_
          rw [ar]
          clear ar arn
          have th : tf_tg (tf_GG N) (20 + 2 * h1) = 1 := (hdn h1_lt).1.1
          refine tf_go hx ftX10_law 2 [] 59 [some (.ref 4), some (.int (nI h1)), some (.int (nI l1)), some (.int (nI v1))] [.int (nI v1), .int (nI l1), .ref (20 + 2 * h1)] S rfl ⟨by decide, by decide, rfl⟩ trivial ?_
          refine tf_cV hx ftX10_law (nx := 62) (As := [.int (nI l1), .int (nI v1)]) (rest := []) (st2 := [.int (nI (A.1 (120 + 6 * h1 + l1)))]) ((by have h := h_changeLaw (S := S) (nI v1) (hdn (N := N) h1_lt).1 l1_lt; rw [(hdn h1_lt).2.1, lv] at h; exact h)) rfl lX10_129 (by first | assumption | rfl | decide) rfl ⟨rfl, by decide, by decide, by decide, rfl, rfl⟩ ?_
          exact tf_ret ftX10_law hR rfl ⟨by decide, by decide⟩ rfl rfl rfl
    · rw [if_neg (fun h => c1 h.2)]
      refine ⟨tf_set S 124 1 (S 124 1 + 1), tf_Fn_of (own := RX10) false ⟨by decide, rfl, by decide⟩ (Nat.le_of_ble_eq_true rfl) trivial (fun x hx hR => ?_), cs_ref hA hC 1, fc_set (by omega)⟩
      show tf_K x 0 0 (tf_GG N) S 0 [some (.ref 4), some (.int h), some (.int l), some (.int v)] []
      refine tf_go hx ftX10_law 1 [] 1 [some (.ref 4), some (.int h), some (.int l), some (.int v)] [.int h] S rfl ⟨by decide, by decide, rfl⟩ trivial ?_
      refine tf_cS hx ftX10_law (nx := 4) (As := [.int h]) (rest := []) (st2 := [.int (if ¬ h < 0 ∧ ¬ 4 ≤ h then 0 else 1)]) (c_noHand h) rfl lX10_122 rfl ⟨rfl, by decide, by decide, by decide, rfl, rfl⟩ ?_
      rw [if_pos c0]
      refine tf_go hx ftX10_law 1 [false] 7 [some (.ref 4), some (.int h), some (.int l), some (.int v)] [] S rfl ⟨by decide, by decide, rfl⟩ ⟨trivial, (by decide)⟩ ?_
      refine tf_go hx ftX10_law 1 [] 8 [some (.ref 4), some (.int h), some (.int l), some (.int v)] [.int l] S rfl ⟨by decide, by decide, rfl⟩ trivial ?_
      by_cases z0 : l < 0
      · refine tf_go hx ftX10_law 1 [true] 17 [some (.ref 4), some (.int h), some (.int l), some (.int v)] [] S rfl ⟨by decide, by decide, rfl⟩ ⟨trivial, (by first | assumption | rfl | decide | omega | exact Nat.succ_ne_zero _)⟩ ?_
        refine tf_go hx ftX10_law 2 [] 19 [some (.ref 4), some (.int h), some (.int l), some (.int v)] [.int (-1), .ref 4] S rfl ⟨by decide, by decide, rfl⟩ trivial ?_
        refine tf_cV hx ftX10_law (nx := 22) (As := [.int (-1)]) (rest := []) (st2 := [.int (-1)]) (n_ref1) rfl lX10_50 (by first | assumption | rfl | decide) rfl ⟨rfl, by decide, by decide, by decide, rfl, rfl⟩ ?_
        exact tf_ret ftX10_law hR rfl ⟨by decide, by decide⟩ rfl rfl rfl
      · refine tf_go hx ftX10_law 1 [false] 11 [some (.ref 4), some (.int h), some (.int l), some (.int v)] [] S rfl ⟨by decide, by decide, rfl⟩ ⟨trivial, (by first | assumption | rfl | decide | omega | exact Nat.succ_ne_zero _)⟩ ?_
        refine tf_go hx ftX10_law 2 [] 14 [some (.ref 4), some (.int h), some (.int l), some (.int v)] [.int 6, .int l] S rfl ⟨by decide, by decide, rfl⟩ trivial ?_
        have z1 : 6 ≤ l := Classical.not_not.mp (fun z => c1 ⟨z0, z⟩)
        refine tf_go hx ftX10_law 1 [false] 17 [some (.ref 4), some (.int h), some (.int l), some (.int v)] [] S rfl ⟨by decide, by decide, rfl⟩ ⟨trivial, (Int32.not_lt.mpr z1)⟩ ?_
        refine tf_go hx ftX10_law 2 [] 19 [some (.ref 4), some (.int h), some (.int l), some (.int v)] [.int (-1), .ref 4] S rfl ⟨by decide, by decide, rfl⟩ trivial ?_
        refine tf_cV hx ftX10_law (nx := 22) (As := [.int (-1)]) (rest := []) (st2 := [.int (-1)]) (n_ref1) rfl lX10_50 (by first | assumption | rfl | decide) rfl ⟨rfl, by decide, by decide, by decide, rfl, rfl⟩ ?_
        exact tf_ret ftX10_law hR rfl ⟨by decide, by decide⟩ rfl rfl rfl
  · rw [if_neg (fun h => c0 h.1)]
    refine ⟨tf_set S 124 1 (S 124 1 + 1), tf_Fn_of (own := RX10) false ⟨by decide, rfl, by decide⟩ (Nat.le_of_ble_eq_true rfl) trivial (fun x hx hR => ?_), cs_ref hA hC 1, fc_set (by omega)⟩
    show tf_K x 0 0 (tf_GG N) S 0 [some (.ref 4), some (.int h), some (.int l), some (.int v)] []
    refine tf_go hx ftX10_law 1 [] 1 [some (.ref 4), some (.int h), some (.int l), some (.int v)] [.int h] S rfl ⟨by decide, by decide, rfl⟩ trivial ?_
    refine tf_cS hx ftX10_law (nx := 4) (As := [.int h]) (rest := []) (st2 := [.int (if ¬ h < 0 ∧ ¬ 4 ≤ h then 0 else 1)]) (c_noHand h) rfl lX10_122 rfl ⟨rfl, by decide, by decide, by decide, rfl, rfl⟩ ?_
    rw [if_neg c0]
    refine tf_go hx ftX10_law 1 [true] 17 [some (.ref 4), some (.int h), some (.int l), some (.int v)] [] S rfl ⟨by decide, by decide, rfl⟩ ⟨trivial, (by decide)⟩ ?_
    refine tf_go hx ftX10_law 2 [] 19 [some (.ref 4), some (.int h), some (.int l), some (.int v)] [.int (-1), .ref 4] S rfl ⟨by decide, by decide, rfl⟩ trivial ?_
    refine tf_cV hx ftX10_law (nx := 22) (As := [.int (-1)]) (rest := []) (st2 := [.int (-1)]) (n_ref1) rfl lX10_50 (by first | assumption | rfl | decide) rfl ⟨rfl, by decide, by decide, by decide, rfl, rfl⟩ ?_
    exact tf_ret ftX10_law hR rfl ⟨by decide, by decide⟩ rfl rfl rfl

theorem tf_neF2 {t : Nat} (ht : t < 2) (h : ¬ t = 0) : ¬ nI t = 0 := tf_eqF (a := t) (b := 0) rfl rfl (by omega) (by omega) (by omega)

set_option maxHeartbeats 2000000 in
theorem c_sign {N : Nat} {S : tf_Sg} {A : tf_A} (t : Nat) (i : Int32) (hA : tf_okA A) (hC : tf_cs S A) (ht : t < 2) : tf_cpq mX10_sign 2 N S [.ref 4, .int (nI t), .int i] (s_sign A t i) := by
  obtain ⟨hg, hb, hA3, hA4, hA5, hA6⟩ := id hA
  obtain ⟨h1j, hS, hK5, ⟨hT1, hT2⟩, hRf, hIm⟩ := id hC
  obtain ⟨⟨g1, g2, g3, g4⟩, g5, g6, g7, g8, g9, g10, g11⟩ := id hg
  unfold s_sign
  by_cases e0 : t = 0
  · rw [show (if t ≠ 0 then 364 else 365) = 365 from if_neg (fun h => h e0), show (if t ≠ 0 then 144 else 184) = 184 from if_neg (fun h => h e0)]
    by_cases c1 : ¬ i < 0 ∧ ¬ nI (A.1 365) ≤ i
    · rw [if_pos c1]
      refine ⟨S, tf_Fn_of (own := RX10) false ⟨by decide, rfl, by decide⟩ (Nat.le_of_ble_eq_true rfl) trivial (fun x hx hR => ?_), hC, fc_id⟩
      show tf_K x 0 0 (tf_GG N) S 0 [some (.ref 4), some (.int (nI t)), some (.int i)] []
      refine tf_go hx ftX10_sign 1 [] 1 [some (.ref 4), some (.int (nI t)), some (.int i)] [.int (nI t)] S rfl ⟨by decide, by decide, rfl⟩ trivial ?_
      refine tf_go hx ftX10_sign 1 [true] 18 [some (.ref 4), some (.int (nI t)), some (.int i)] [] S rfl ⟨by decide, by decide, rfl⟩ ⟨trivial, (tf_eqT (a := t) (b := 0) rfl (rfl : (0 : Int32) = nI 0) (by omega))⟩ ?_
      refine tf_go hx ftX10_sign 4 [] 26 [some (.ref 4), some (.int (nI t)), some (.int i)] [.int i, .ref 30] S rfl ⟨by decide, by decide, rfl⟩ ⟨⟨trivial, ⟨by first | assumption | rfl | decide | omega | exact Nat.succ_ne_zero _, by first | assumption | rfl | decide | omega | exact Nat.succ_ne_zero _⟩⟩, ⟨by first | assumption | rfl | decide | omega | exact Nat.succ_ne_zero _, by first | assumption | rfl | decide | omega | exact Nat.succ_ne_zero _⟩⟩ ?_
      refine tf_cV hx ftX10_sign (nx := 29) (As := [.int i]) (rest := []) (st2 := [.int (nI (A.1 (184 + i.toNatClampNeg)))]) ((by have h := v_ati (nw_W (N := N) hS hg) i; rw [if_pos c1] at h; exact h)) rfl lX10_139 (by first | assumption | rfl | decide) rfl ⟨rfl, by decide, by decide, by decide, rfl, rfl⟩ ?_
      exact tf_ret ftX10_sign hR rfl ⟨by decide, by decide⟩ rfl rfl rfl
    · rw [if_neg c1]
      refine ⟨S, tf_Fn_of (own := RX10) false ⟨by decide, rfl, by decide⟩ (Nat.le_of_ble_eq_true rfl) trivial (fun x hx hR => ?_), hC, fc_id⟩
      show tf_K x 0 0 (tf_GG N) S 0 [some (.ref 4), some (.int (nI t)), some (.int i)] []
      refine tf_go hx ftX10_sign 1 [] 1 [some (.ref 4), some (.int (nI t)), some (.int i)] [.int (nI t)] S rfl ⟨by decide, by decide, rfl⟩ trivial ?_
      refine tf_go hx ftX10_sign 1 [true] 18 [some (.ref 4), some (.int (nI t)), some (.int i)] [] S rfl ⟨by decide, by decide, rfl⟩ ⟨trivial, (tf_eqT (a := t) (b := 0) rfl (rfl : (0 : Int32) = nI 0) (by omega))⟩ ?_
      refine tf_go hx ftX10_sign 4 [] 26 [some (.ref 4), some (.int (nI t)), some (.int i)] [.int i, .ref 30] S rfl ⟨by decide, by decide, rfl⟩ ⟨⟨trivial, ⟨by first | assumption | rfl | decide | omega | exact Nat.succ_ne_zero _, by first | assumption | rfl | decide | omega | exact Nat.succ_ne_zero _⟩⟩, ⟨by first | assumption | rfl | decide | omega | exact Nat.succ_ne_zero _, by first | assumption | rfl | decide | omega | exact Nat.succ_ne_zero _⟩⟩ ?_
      refine tf_cV hx ftX10_sign (nx := 29) (As := [.int i]) (rest := []) (st2 := [.int (-9)]) ((by have h := v_ati (nw_W (N := N) hS hg) i; rw [if_neg c1] at h; exact h)) rfl lX10_139 (by first | assumption | rfl | decide) rfl ⟨rfl, by decide, by decide, by decide, rfl, rfl⟩ ?_
      exact tf_ret ftX10_sign hR rfl ⟨by decide, by decide⟩ rfl rfl rfl
  · rw [show (if t ≠ 0 then 364 else 365) = 364 from if_pos e0, show (if t ≠ 0 then 144 else 184) = 144 from if_pos e0]
    by_cases c1 : ¬ i < 0 ∧ ¬ nI (A.1 364) ≤ i
    · rw [if_pos c1]
      refine ⟨S, tf_Fn_of (own := RX10) false ⟨by decide, rfl, by decide⟩ (Nat.le_of_ble_eq_true rfl) trivial (fun x hx hR => ?_), hC, fc_id⟩
      show tf_K x 0 0 (tf_GG N) S 0 [some (.ref 4), some (.int (nI t)), some (.int i)] []
      refine tf_go hx ftX10_sign 1 [] 1 [some (.ref 4), some (.int (nI t)), some (.int i)] [.int (nI t)] S rfl ⟨by decide, by decide, rfl⟩ trivial ?_
      refine tf_go hx ftX10_sign 1 [false] 4 [some (.ref 4), some (.int (nI t)), some (.int i)] [] S rfl ⟨by decide, by decide, rfl⟩ ⟨trivial, (tf_neF2 ht e0)⟩ ?_
      refine tf_go hx ftX10_sign 4 [] 12 [some (.ref 4), some (.int (nI t)), some (.int i)] [.int i, .ref 28] S rfl ⟨by decide, by decide, rfl⟩ ⟨⟨trivial, ⟨by first | assumption | rfl | decide | omega | exact Nat.succ_ne_zero _, by first | assumption | rfl | decide | omega | exact Nat.succ_ne_zero _⟩⟩, ⟨by first | assumption | rfl | decide | omega | exact Nat.succ_ne_zero _, by first | assumption | rfl | decide | omega | exact Nat.succ_ne_zero _⟩⟩ ?_
      refine tf_cV hx ftX10_sign (nx := 15) (As := [.int i]) (rest := []) (st2 := [.int (nI (A.1 (144 + i.toNatClampNeg)))]) ((by have h := v_ati (nw_M (N := N) hS hg) i; rw [if_pos c1] at h; exact h)) rfl lX10_139 (by first | assumption | rfl | decide) rfl ⟨rfl, by decide, by decide, by decide, rfl, rfl⟩ ?_
      refine tf_go hx ftX10_sign 1 [] 29 [some (.ref 4), some (.int (nI t)), some (.int i)] [.int (nI (A.1 (144 + i.toNatClampNeg)))] S rfl ⟨by decide, by decide, rfl⟩ trivial ?_
      exact tf_ret ftX10_sign hR rfl ⟨by decide, by decide⟩ rfl rfl rfl
    · rw [if_neg c1]
      refine ⟨S, tf_Fn_of (own := RX10) false ⟨by decide, rfl, by decide⟩ (Nat.le_of_ble_eq_true rfl) trivial (fun x hx hR => ?_), hC, fc_id⟩
      show tf_K x 0 0 (tf_GG N) S 0 [some (.ref 4), some (.int (nI t)), some (.int i)] []
      refine tf_go hx ftX10_sign 1 [] 1 [some (.ref 4), some (.int (nI t)), some (.int i)] [.int (nI t)] S rfl ⟨by decide, by decide, rfl⟩ trivial ?_
      refine tf_go hx ftX10_sign 1 [false] 4 [some (.ref 4), some (.int (nI t)), some (.int i)] [] S rfl ⟨by decide, by decide, rfl⟩ ⟨trivial, (tf_neF2 ht e0)⟩ ?_
      refine tf_go hx ftX10_sign 4 [] 12 [some (.ref 4), some (.int (nI t)), some (.int i)] [.int i, .ref 28] S rfl ⟨by decide, by decide, rfl⟩ ⟨⟨trivial, ⟨by first | assumption | rfl | decide | omega | exact Nat.succ_ne_zero _, by first | assumption | rfl | decide | omega | exact Nat.succ_ne_zero _⟩⟩, ⟨by first | assumption | rfl | decide | omega | exact Nat.succ_ne_zero _, by first | assumption | rfl | decide | omega | exact Nat.succ_ne_zero _⟩⟩ ?_
      refine tf_cV hx ftX10_sign (nx := 15) (As := [.int i]) (rest := []) (st2 := [.int (-9)]) ((by have h := v_ati (nw_M (N := N) hS hg) i; rw [if_neg c1] at h; exact h)) rfl lX10_139 (by first | assumption | rfl | decide) rfl ⟨rfl, by decide, by decide, by decide, rfl, rfl⟩ ?_
      refine tf_go hx ftX10_sign 1 [] 29 [some (.ref 4), some (.int (nI t)), some (.int i)] [.int (-9)] S rfl ⟨by decide, by decide, rfl⟩ trivial ?_
      exact tf_ret ftX10_sign hR rfl ⟨by decide, by decide⟩ rfl rfl rfl

set_option maxHeartbeats 2000000 in
theorem c_practise {N : Nat} {S : tf_Sg} {A : tf_A} (w n : Int32) (hA : tf_okA A) (hC : tf_cs S A)  : tf_cpq mX10_practise 3 N S [.ref 4, .int w, .int n] (s_practise A w n) := by
  obtain ⟨hg, hb, hA3, hA4, hA5, hA6⟩ := id hA
  obtain ⟨h1j, hS, hK5, ⟨hT1, hT2⟩, hRf, hIm⟩ := id hC
  obtain ⟨⟨g1, g2, g3, g4⟩, g5, g6, g7, g8, g9, g10, g11⟩ := id hg
  unfold s_practise
  by_cases c0 : ¬ w < 0 ∧ ¬ nI (A.1 366) ≤ w
  · rw [if_pos c0]
    obtain ⟨w1, w1_lt, w1_eq, w1_cl⟩ := tf_ok_nI (N := A.1 366) (show tf_ok w _ from c0) rfl (by omega)
    rw [w1_cl]
    subst w1_eq
    by_cases e1 : ¬ 1 ≤ n
    · rw [if_pos e1]
      refine ⟨tf_set S 124 4 (S 124 4 + 1), tf_Fn_of (own := RX10) false ⟨by decide, rfl, by decide⟩ (Nat.le_of_ble_eq_true rfl) trivial (fun x hx hR => ?_), cs_ref hA hC 4, fc_set (by omega)⟩
      show tf_K x 0 0 (tf_GG N) S 0 [some (.ref 4), some (.int (nI w1)), some (.int n)] []
      refine tf_go hx ftX10_practise 1 [] 1 [some (.ref 4), some (.int (nI w1)), some (.int n)] [.int (nI w1)] S rfl ⟨by decide, by decide, rfl⟩ trivial ?_
      refine tf_go hx ftX10_practise 1 [false] 4 [some (.ref 4), some (.int (nI w1)), some (.int n)] [] S rfl ⟨by decide, by decide, rfl⟩ ⟨trivial, (tf_ltF (a := w1) (b := 0) rfl (rfl : (0 : Int32) = nI 0) (by omega) (by omega) (by omega))⟩ ?_
      refine tf_go hx ftX10_practise 4 [] 12 [some (.ref 4), some (.int (nI w1)), some (.int n)] [.ref 32, .int (nI w1)] S rfl ⟨by decide, by decide, rfl⟩ ⟨⟨trivial, ⟨by first | assumption | rfl | decide | omega | exact Nat.succ_ne_zero _, by first | assumption | rfl | decide | omega | exact Nat.succ_ne_zero _⟩⟩, ⟨by first | assumption | rfl | decide | omega | exact Nat.succ_ne_zero _, by first | assumption | rfl | decide | omega | exact Nat.succ_ne_zero _⟩⟩ ?_
      refine tf_cV hx ftX10_practise (nx := 15) (As := []) (rest := [.int (nI w1)]) (st2 := [.int (nI (A.1 366)), .int (nI w1)]) (w_size (nw_V hS) hg hb) rfl lX10_101 (by first | assumption | rfl | decide) rfl ⟨rfl, by decide, by decide, by decide, rfl, rfl⟩ ?_
      refine tf_go hx ftX10_practise 1 [true] 24 [some (.ref 4), some (.int (nI w1)), some (.int n)] [] S rfl ⟨by decide, by decide, rfl⟩ ⟨trivial, (tf_ltT (a := w1) (b := (A.1 366)) rfl rfl (by have := hb 366; omega) (by have := hb 366; omega) (by have := hb 366; omega))⟩ ?_
      refine tf_go hx ftX10_practise 2 [] 26 [some (.ref 4), some (.int (nI w1)), some (.int n)] [.int 1, .int n] S rfl ⟨by decide, by decide, rfl⟩ trivial ?_
      refine tf_go hx ftX10_practise 1 [false] 29 [some (.ref 4), some (.int (nI w1)), some (.int n)] [] S rfl ⟨by decide, by decide, rfl⟩ ⟨trivial, e1⟩ ?_
      refine tf_go hx ftX10_practise 2 [] 32 [some (.ref 4), some (.int (nI w1)), some (.int n)] [.int (-4), .ref 4] S rfl ⟨by decide, by decide, rfl⟩ trivial ?_
      refine tf_cV hx ftX10_practise (nx := 35) (As := [.int (-4)]) (rest := []) (st2 := [.int (-4)]) (n_ref4) rfl lX10_50 (by first | assumption | rfl | decide) rfl ⟨rfl, by decide, by decide, by decide, rfl, rfl⟩ ?_
      exact tf_ret ftX10_practise hR rfl ⟨by decide, by decide⟩ rfl rfl rfl
    · by_cases e2 : ¬ n ≤ 999
      · rw [if_neg e1, if_pos e2]
        refine ⟨tf_set S 124 6 (S 124 6 + 1), tf_Fn_of (own := RX10) false ⟨by decide, rfl, by decide⟩ (Nat.le_of_ble_eq_true rfl) trivial (fun x hx hR => ?_), cs_ref hA hC 6, fc_set (by omega)⟩
        show tf_K x 0 0 (tf_GG N) S 0 [some (.ref 4), some (.int (nI w1)), some (.int n)] []
        refine tf_go hx ftX10_practise 1 [] 1 [some (.ref 4), some (.int (nI w1)), some (.int n)] [.int (nI w1)] S rfl ⟨by decide, by decide, rfl⟩ trivial ?_
        refine tf_go hx ftX10_practise 1 [false] 4 [some (.ref 4), some (.int (nI w1)), some (.int n)] [] S rfl ⟨by decide, by decide, rfl⟩ ⟨trivial, (tf_ltF (a := w1) (b := 0) rfl (rfl : (0 : Int32) = nI 0) (by omega) (by omega) (by omega))⟩ ?_
        refine tf_go hx ftX10_practise 4 [] 12 [some (.ref 4), some (.int (nI w1)), some (.int n)] [.ref 32, .int (nI w1)] S rfl ⟨by decide, by decide, rfl⟩ ⟨⟨trivial, ⟨by first | assumption | rfl | decide | omega | exact Nat.succ_ne_zero _, by first | assumption | rfl | decide | omega | exact Nat.succ_ne_zero _⟩⟩, ⟨by first | assumption | rfl | decide | omega | exact Nat.succ_ne_zero _, by first | assumption | rfl | decide | omega | exact Nat.succ_ne_zero _⟩⟩ ?_
        refine tf_cV hx ftX10_practise (nx := 15) (As := []) (rest := [.int (nI w1)]) (st2 := [.int (nI (A.1 366)), .int (nI w1)]) (w_size (nw_V hS) hg hb) rfl lX10_101 (by first | assumption | rfl | decide) rfl ⟨rfl, by decide, by decide, by decide, rfl, rfl⟩ ?_
        refine tf_go hx ftX10_practise 1 [true] 24 [some (.ref 4), some (.int (nI w1)), some (.int n)] [] S rfl ⟨by decide, by decide, rfl⟩ ⟨trivial, (tf_ltT (a := w1) (b := (A.1 366)) rfl rfl (by have := hb 366; omega) (by have := hb 366; omega) (by have := hb 366; omega))⟩ ?_
        refine tf_go hx ftX10_practise 2 [] 26 [some (.ref 4), some (.int (nI w1)), some (.int n)] [.int 1, .int n] S rfl ⟨by decide, by decide, rfl⟩ trivial ?_
        refine tf_go hx ftX10_practise 1 [true] 36 [some (.ref 4), some (.int (nI w1)), some (.int n)] [] S rfl ⟨by decide, by decide, rfl⟩ ⟨trivial, (Classical.not_not.mp e1)⟩ ?_
        refine tf_go hx ftX10_practise 2 [] 40 [some (.ref 4), some (.int (nI w1)), some (.int n)] [.int 999, .int n] S rfl ⟨by decide, by decide, rfl⟩ trivial ?_
        refine tf_go hx ftX10_practise 1 [false] 43 [some (.ref 4), some (.int (nI w1)), some (.int n)] [] S rfl ⟨by decide, by decide, rfl⟩ ⟨trivial, e2⟩ ?_
        refine tf_go hx ftX10_practise 2 [] 46 [some (.ref 4), some (.int (nI w1)), some (.int n)] [.int (-6), .ref 4] S rfl ⟨by decide, by decide, rfl⟩ trivial ?_
        refine tf_cV hx ftX10_practise (nx := 49) (As := [.int (-6)]) (rest := []) (st2 := [.int (-6)]) (n_ref6) rfl lX10_50 (by first | assumption | rfl | decide) rfl ⟨rfl, by decide, by decide, by decide, rfl, rfl⟩ ?_
        exact tf_ret ftX10_practise hR rfl ⟨by decide, by decide⟩ rfl rfl rfl
      · rw [if_neg e1, if_neg e2]
        obtain ⟨n1, n1_le, n1_eq⟩ := nI_of2 (M := 999) (n := 999) (x := n) (by decide) (fun h => e1 (fun h2 => absurd (Int32.lt_of_lt_of_le h (by decide)) (Int32.not_lt.mpr h2))) (Classical.not_not.mp e2)
        have n1_cl : n.toNatClampNeg = n1 := by rw [n1_eq]; exact tf_cl_nI (by omega)
        try rw [n1_cl]
        subst n1_eq
        refine ⟨tf_set S 54 w1 (nI (if A.1 (224 + 10 * w1 + 1) + n1 ≤ 9999 then A.1 (224 + 10 * w1 + 1) + n1 else 9999)), tf_Fn_of (own := RX10) false ⟨by decide, rfl, by decide⟩ (Nat.le_of_ble_eq_true rfl) trivial (fun x hx hR => ?_), cs_f hA hC (nx_set (by omega)) (st_prac hS hg w1_lt), fc_set (by omega)⟩
        show tf_K x 0 0 (tf_GG N) S 0 [some (.ref 4), some (.int (nI w1)), some (.int (nI n1))] []
        refine tf_go hx ftX10_practise 1 [] 1 [some (.ref 4), some (.int (nI w1)), some (.int (nI n1))] [.int (nI w1)] S rfl ⟨by decide, by decide, rfl⟩ trivial ?_
        refine tf_go hx ftX10_practise 1 [false] 4 [some (.ref 4), some (.int (nI w1)), some (.int (nI n1))] [] S rfl ⟨by decide, by decide, rfl⟩ ⟨trivial, (tf_ltF (a := w1) (b := 0) rfl (rfl : (0 : Int32) = nI 0) (by omega) (by omega) (by omega))⟩ ?_
        refine tf_go hx ftX10_practise 4 [] 12 [some (.ref 4), some (.int (nI w1)), some (.int (nI n1))] [.ref 32, .int (nI w1)] S rfl ⟨by decide, by decide, rfl⟩ ⟨⟨trivial, ⟨by first | assumption | rfl | decide | omega | exact Nat.succ_ne_zero _, by first | assumption | rfl | decide | omega | exact Nat.succ_ne_zero _⟩⟩, ⟨by first | assumption | rfl | decide | omega | exact Nat.succ_ne_zero _, by first | assumption | rfl | decide | omega | exact Nat.succ_ne_zero _⟩⟩ ?_
        refine tf_cV hx ftX10_practise (nx := 15) (As := []) (rest := [.int (nI w1)]) (st2 := [.int (nI (A.1 366)), .int (nI w1)]) (w_size (nw_V hS) hg hb) rfl lX10_101 (by first | assumption | rfl | decide) rfl ⟨rfl, by decide, by decide, by decide, rfl, rfl⟩ ?_
        refine tf_go hx ftX10_practise 1 [true] 24 [some (.ref 4), some (.int (nI w1)), some (.int (nI n1))] [] S rfl ⟨by decide, by decide, rfl⟩ ⟨trivial, (tf_ltT (a := w1) (b := (A.1 366)) rfl rfl (by have := hb 366; omega) (by have := hb 366; omega) (by have := hb 366; omega))⟩ ?_
        refine tf_go hx ftX10_practise 2 [] 26 [some (.ref 4), some (.int (nI w1)), some (.int (nI n1))] [.int 1, .int (nI n1)] S rfl ⟨by decide, by decide, rfl⟩ trivial ?_
        refine tf_go hx ftX10_practise 1 [true] 36 [some (.ref 4), some (.int (nI w1)), some (.int (nI n1))] [] S rfl ⟨by decide, by decide, rfl⟩ ⟨trivial, (Classical.not_not.mp e1)⟩ ?_
        refine tf_go hx ftX10_practise 2 [] 40 [some (.ref 4), some (.int (nI w1)), some (.int (nI n1))] [.int 999, .int (nI n1)] S rfl ⟨by decide, by decide, rfl⟩ trivial ?_
        refine tf_go hx ftX10_practise 1 [true] 50 [some (.ref 4), some (.int (nI w1)), some (.int (nI n1))] [] S rfl ⟨by decide, by decide, rfl⟩ ⟨trivial, (tf_leT (a := n1) (b := 999) rfl (rfl : (999 : Int32) = nI 999) (by omega) (by omega) (by omega))⟩ ?_
        refine tf_go hx ftX10_practise 5 [] 59 [some (.ref 4), some (.int (nI w1)), some (.int (nI n1))] [.int (nI n1), .int (nI w1), .ref 32] S rfl ⟨by decide, by decide, rfl⟩ ⟨⟨trivial, ⟨by first | assumption | rfl | decide | omega | exact Nat.succ_ne_zero _, by first | assumption | rfl | decide | omega | exact Nat.succ_ne_zero _⟩⟩, ⟨by first | assumption | rfl | decide | omega | exact Nat.succ_ne_zero _, by first | assumption | rfl | decide | omega | exact Nat.succ_ne_zero _⟩⟩ ?_
        refine tf_cV hx ftX10_practise (nx := 62) (As := [.int (nI w1), .int (nI n1)]) (rest := []) (st2 := [.int (nI (if A.1 (224 + 10 * w1 + 1) + n1 ≤ 9999 then A.1 (224 + 10 * w1 + 1) + n1 else 9999))]) (w_useMore w1 n1 (nw_V hS) hg hb w1_lt (by omega)) rfl lX10_142 (by first | assumption | rfl | decide) rfl ⟨rfl, by decide, by decide, by decide, rfl, rfl⟩ ?_
        exact tf_ret ftX10_practise hR rfl ⟨by decide, by decide⟩ rfl rfl rfl
  · rw [if_neg c0]
    refine ⟨tf_set S 124 1 (S 124 1 + 1), tf_Fn_of (own := RX10) false ⟨by decide, rfl, by decide⟩ (Nat.le_of_ble_eq_true rfl) trivial (fun x hx hR => ?_), cs_ref hA hC 1, fc_set (by omega)⟩
    show tf_K x 0 0 (tf_GG N) S 0 [some (.ref 4), some (.int w), some (.int n)] []
    refine tf_go hx ftX10_practise 1 [] 1 [some (.ref 4), some (.int w), some (.int n)] [.int w] S rfl ⟨by decide, by decide, rfl⟩ trivial ?_
    by_cases z0 : w < 0
    · refine tf_go hx ftX10_practise 1 [true] 18 [some (.ref 4), some (.int w), some (.int n)] [] S rfl ⟨by decide, by decide, rfl⟩ ⟨trivial, (by first | assumption | rfl | decide | omega | exact Nat.succ_ne_zero _)⟩ ?_
      refine tf_go hx ftX10_practise 2 [] 20 [some (.ref 4), some (.int w), some (.int n)] [.int (-1), .ref 4] S rfl ⟨by decide, by decide, rfl⟩ trivial ?_
      refine tf_cV hx ftX10_practise (nx := 23) (As := [.int (-1)]) (rest := []) (st2 := [.int (-1)]) (n_ref1) rfl lX10_50 (by first | assumption | rfl | decide) rfl ⟨rfl, by decide, by decide, by decide, rfl, rfl⟩ ?_
      exact tf_ret ftX10_practise hR rfl ⟨by decide, by decide⟩ rfl rfl rfl
    · refine tf_go hx ftX10_practise 1 [false] 4 [some (.ref 4), some (.int w), some (.int n)] [] S rfl ⟨by decide, by decide, rfl⟩ ⟨trivial, (by first | assumption | rfl | decide | omega | exact Nat.succ_ne_zero _)⟩ ?_
      refine tf_go hx ftX10_practise 4 [] 12 [some (.ref 4), some (.int w), some (.int n)] [.ref 32, .int w] S rfl ⟨by decide, by decide, rfl⟩ ⟨⟨trivial, ⟨by first | assumption | rfl | decide | omega | exact Nat.succ_ne_zero _, by first | assumption | rfl | decide | omega | exact Nat.succ_ne_zero _⟩⟩, ⟨by first | assumption | rfl | decide | omega | exact Nat.succ_ne_zero _, by first | assumption | rfl | decide | omega | exact Nat.succ_ne_zero _⟩⟩ ?_
      refine tf_cV hx ftX10_practise (nx := 15) (As := []) (rest := [.int w]) (st2 := [.int (nI (A.1 366)), .int w]) (w_size (nw_V hS) hg hb) rfl lX10_101 (by first | assumption | rfl | decide) rfl ⟨rfl, by decide, by decide, by decide, rfl, rfl⟩ ?_
      refine tf_go hx ftX10_practise 1 [false] 18 [some (.ref 4), some (.int w), some (.int n)] [] S rfl ⟨by decide, by decide, rfl⟩ ⟨trivial, (Int32.not_lt.mpr (Classical.not_not.mp (fun z => c0 ⟨z0, z⟩)))⟩ ?_
      refine tf_go hx ftX10_practise 2 [] 20 [some (.ref 4), some (.int w), some (.int n)] [.int (-1), .ref 4] S rfl ⟨by decide, by decide, rfl⟩ trivial ?_
      refine tf_cV hx ftX10_practise (nx := 23) (As := [.int (-1)]) (rest := []) (st2 := [.int (-1)]) (n_ref1) rfl lX10_50 (by first | assumption | rfl | decide) rfl ⟨rfl, by decide, by decide, by decide, rfl, rfl⟩ ?_
      exact tf_ret ftX10_practise hR rfl ⟨by decide, by decide⟩ rfl rfl rfl

set_option maxHeartbeats 2000000 in
theorem c_pieces {N : Nat} {S : tf_Sg} {A : tf_A}  (hA : tf_okA A) (hC : tf_cs S A)  : tf_cpq mX10_pieces 5 N S [.ref 4] (s_pieces A) := by
  obtain ⟨hg, hb, hA3, hA4, hA5, hA6⟩ := id hA
  obtain ⟨h1j, hS, hK5, ⟨hT1, hT2⟩, hRf, hIm⟩ := id hC
  obtain ⟨⟨g1, g2, g3, g4⟩, g5, g6, g7, g8, g9, g10, g11⟩ := id hg
  unfold s_pieces
  refine ⟨tf_px S A.1, tf_Fn_of (own := RX10) false ⟨by decide, rfl, by decide⟩ (Nat.le_of_ble_eq_true rfl) trivial (fun x hx hR => ?_), cs_sx hA hC tf_sx_px, fc_sx tf_sx_px⟩
  show tf_K x 0 0 (tf_GG N) S 0 [some (.ref 4)] []
  refine tf_go hx ftX10_pieces 8 [] 18 [some (.ref 4)] [.ref 32, .ref 28, .ref 111] S rfl ⟨by decide, by decide, rfl⟩ ⟨⟨⟨⟨⟨trivial, ⟨by first | assumption | rfl | decide | omega | exact Nat.succ_ne_zero _, by first | assumption | rfl | decide | omega | exact Nat.succ_ne_zero _⟩⟩, ⟨by first | assumption | rfl | decide | omega | exact Nat.succ_ne_zero _, by first | assumption | rfl | decide | omega | exact Nat.succ_ne_zero _⟩⟩, ⟨by first | assumption | rfl | decide | omega | exact Nat.succ_ne_zero _, by first | assumption | rfl | decide | omega | exact Nat.succ_ne_zero _⟩⟩, ⟨by first | assumption | rfl | decide | omega | exact Nat.succ_ne_zero _, by first | assumption | rfl | decide | omega | exact Nat.succ_ne_zero _⟩⟩, ⟨by first | assumption | rfl | decide | omega | exact Nat.succ_ne_zero _, by first | assumption | rfl | decide | omega | exact Nat.succ_ne_zero _⟩⟩ ?_
  refine tf_cV hx ftX10_pieces (nx := 21) (As := [.ref 28, .ref 32]) (rest := []) (st2 := []) (n_cut hS hg hb) rfl lX10_145 (by first | assumption | rfl | decide) rfl ⟨rfl, by decide, by decide, by decide, rfl, rfl⟩ ?_
  refine tf_go hx ftX10_pieces 2 [] 25 [some (.ref 4)] [.ref 111] (tf_px S A.1) rfl ⟨by decide, by decide, rfl⟩ ⟨trivial, ⟨by first | assumption | rfl | decide | omega | exact Nat.succ_ne_zero _, by first | assumption | rfl | decide | omega | exact Nat.succ_ne_zero _⟩⟩ ?_
  refine tf_cV hx ftX10_pieces (nx := 28) (As := []) (rest := []) (st2 := [.int (nI (tf_np A.1 40 0))]) (q_size (nw_np hg).1) rfl lX10_158 (by first | assumption | rfl | decide) rfl ⟨rfl, by decide, by decide, by decide, rfl, rfl⟩ ?_
  exact tf_ret ftX10_pieces hR rfl ⟨by decide, by decide⟩ rfl rfl rfl

theorem nw_npe {f : Nat → Nat} (hg : tf_gd f) : ¬ tf_ps f (tf_np f 40 0) < f 364 := by
  intro h
  obtain ⟨h1, h2⟩ := nw_np hg
  have g := hg.1.1
  have j := tf_ps_ge hg (tf_np f 40 0)
  have e := tf_np_ps hg (tf_np f 40 0 + 1) (by omega) (fun i hi => by by_cases q : i = tf_np f 40 0; rw [q]; exact h; exact h2 i (by omega))
  omega

set_option maxHeartbeats 2000000 in
theorem c_piece {N : Nat} {S : tf_Sg} {A : tf_A} (i w : Int32) (hA : tf_okA A) (hC : tf_cs S A)  : tf_cpq mX10_piece 5 N S [.ref 4, .int i, .int w] (s_piece A i w) := by
  obtain ⟨hg, hb, hA3, hA4, hA5, hA6⟩ := id hA
  obtain ⟨h1j, hS, hK5, ⟨hT1, hT2⟩, hRf, hIm⟩ := id hC
  obtain ⟨⟨g1, g2, g3, g4⟩, g5, g6, g7, g8, g9, g10, g11⟩ := id hg
  unfold s_piece
  by_cases c0 : ¬ w < 0 ∧ ¬ 3 ≤ w
  · rw [if_pos c0]
    obtain ⟨w1, w1_lt, w1_eq, w1_cl⟩ := tf_ok_nI (N := 3) (show tf_ok w _ from c0) rfl (by decide)
    try rw [w1_cl]
    subst w1_eq
    by_cases c1 : ¬ i < 0 ∧ ¬ nI (tf_np A.1 40 0) ≤ i
    · obtain ⟨j, hj, i_eq, i_cl⟩ := tf_ok_nI (N := tf_np A.1 40 0) (show tf_ok i _ from c1) rfl (by have := (nw_np hg).1; omega)
      subst i_eq
      have pa : tf_pa A.1 (nI j) = tf_ps A.1 j := tf_pa_in hg (fun r hr => (nw_np hg).2 r (by omega))
      have pl := (nw_np hg).2 j hj
      have pv : tf_pv A.1 (nI j) (nI w1) = (if nI w1 = 0 then nI (tf_ps A.1 j) else if nI w1 = 1 then nI (tf_sz A.1 (tf_wd A.1 (tf_ps A.1 j))) else tf_on 10 (tf_wd A.1 (tf_ps A.1 j))) := by unfold tf_pv; rw [pa, if_pos (by omega)]
      rw [pv]
      by_cases a0 : w1 = 0
      · subst a0
        rw [if_pos (show nI 0 = 0 by decide)]
        refine ⟨tf_px S A.1, tf_Fn_of (own := RX10) false ⟨by decide, rfl, by decide⟩ (Nat.le_of_ble_eq_true rfl) trivial (fun x hx hR => ?_), cs_sx hA hC tf_sx_px, fc_sx tf_sx_px⟩
        show tf_K x 0 0 (tf_GG N) S 0 [some (.ref 4), some (.int (nI j)), some (.int (nI 0))] []
        refine tf_go hx ftX10_piece 1 [] 1 [some (.ref 4), some (.int (nI j)), some (.int (nI 0))] [.int (nI 0)] S rfl ⟨by decide, by decide, rfl⟩ trivial ?_
        refine tf_go hx ftX10_piece 1 [false] 4 [some (.ref 4), some (.int (nI j)), some (.int (nI 0))] [] S rfl ⟨by decide, by decide, rfl⟩ ⟨trivial, (by decide)⟩ ?_
        refine tf_go hx ftX10_piece 2 [] 6 [some (.ref 4), some (.int (nI j)), some (.int (nI 0))] [.int 2, .int (nI 0)] S rfl ⟨by decide, by decide, rfl⟩ trivial ?_
        refine tf_go hx ftX10_piece 1 [true] 16 [some (.ref 4), some (.int (nI j)), some (.int (nI 0))] [] S rfl ⟨by decide, by decide, rfl⟩ ⟨trivial, (by decide)⟩ ?_
        refine tf_go hx ftX10_piece 8 [] 34 [some (.ref 4), some (.int (nI j)), some (.int (nI 0))] [.ref 32, .ref 28, .ref 111] S rfl ⟨by decide, by decide, rfl⟩ ⟨⟨⟨⟨⟨trivial, ⟨by first | assumption | rfl | decide | omega | exact Nat.succ_ne_zero _, by first | assumption | rfl | decide | omega | exact Nat.succ_ne_zero _⟩⟩, ⟨by first | assumption | rfl | decide | omega | exact Nat.succ_ne_zero _, by first | assumption | rfl | decide | omega | exact Nat.succ_ne_zero _⟩⟩, ⟨by first | assumption | rfl | decide | omega | exact Nat.succ_ne_zero _, by first | assumption | rfl | decide | omega | exact Nat.succ_ne_zero _⟩⟩, ⟨by first | assumption | rfl | decide | omega | exact Nat.succ_ne_zero _, by first | assumption | rfl | decide | omega | exact Nat.succ_ne_zero _⟩⟩, ⟨by first | assumption | rfl | decide | omega | exact Nat.succ_ne_zero _, by first | assumption | rfl | decide | omega | exact Nat.succ_ne_zero _⟩⟩ ?_
        refine tf_cV hx ftX10_piece (nx := 37) (As := [.ref 28, .ref 32]) (rest := []) (st2 := []) (n_cut hS hg hb) rfl lX10_145 (by first | assumption | rfl | decide) rfl ⟨rfl, by decide, by decide, by decide, rfl, rfl⟩ ?_
        refine tf_go hx ftX10_piece 1 [] 38 [some (.ref 4), some (.int (nI j)), some (.int (nI 0))] [.int (nI 0)] (tf_px S A.1) rfl ⟨by decide, by decide, rfl⟩ trivial ?_
        refine tf_go hx ftX10_piece 1 [false] 41 [some (.ref 4), some (.int (nI j)), some (.int (nI 0))] [] (tf_px S A.1) rfl ⟨by decide, by decide, rfl⟩ ⟨trivial, (by decide)⟩ ?_
        refine tf_go hx ftX10_piece 3 [] 46 [some (.ref 4), some (.int (nI j)), some (.int (nI 0))] [.int (nI j), .ref 111] (tf_px S A.1) rfl ⟨by decide, by decide, rfl⟩ ⟨trivial, ⟨by first | assumption | rfl | decide | omega | exact Nat.succ_ne_zero _, by first | assumption | rfl | decide | omega | exact Nat.succ_ne_zero _⟩⟩ ?_
        refine tf_cV hx ftX10_piece (nx := 49) (As := [.int (nI j)]) (rest := []) (st2 := [.int (nI (tf_ps A.1 j))]) ((by have h := q_beginAt (N := N) (S := S) (f := A.1) (a := tf_np A.1 40 0) (b := tf_np A.1 40 0) (c := tf_np A.1 40 0) (e := A.1 364) (nI j) (nw_np hg).1; rw [if_pos c1, i_cl] at h; exact h)) rfl lX10_149 (by first | assumption | rfl | decide) rfl ⟨rfl, by decide, by decide, by decide, rfl, rfl⟩ ?_
        exact tf_ret ftX10_piece hR rfl ⟨by decide, by decide⟩ rfl rfl rfl
      · by_cases a1 : w1 = 1
        · subst a1
          rw [if_neg (by decide), if_pos (show nI 1 = 1 by decide)]
          refine ⟨tf_px S A.1, tf_Fn_of (own := RX10) false ⟨by decide, rfl, by decide⟩ (Nat.le_of_ble_eq_true rfl) trivial (fun x hx hR => ?_), cs_sx hA hC tf_sx_px, fc_sx tf_sx_px⟩
          show tf_K x 0 0 (tf_GG N) S 0 [some (.ref 4), some (.int (nI j)), some (.int (nI 1))] []
          refine tf_go hx ftX10_piece 1 [] 1 [some (.ref 4), some (.int (nI j)), some (.int (nI 1))] [.int (nI 1)] S rfl ⟨by decide, by decide, rfl⟩ trivial ?_
          refine tf_go hx ftX10_piece 1 [false] 4 [some (.ref 4), some (.int (nI j)), some (.int (nI 1))] [] S rfl ⟨by decide, by decide, rfl⟩ ⟨trivial, (by decide)⟩ ?_
          refine tf_go hx ftX10_piece 2 [] 6 [some (.ref 4), some (.int (nI j)), some (.int (nI 1))] [.int 2, .int (nI 1)] S rfl ⟨by decide, by decide, rfl⟩ trivial ?_
          refine tf_go hx ftX10_piece 1 [true] 16 [some (.ref 4), some (.int (nI j)), some (.int (nI 1))] [] S rfl ⟨by decide, by decide, rfl⟩ ⟨trivial, (by decide)⟩ ?_
          refine tf_go hx ftX10_piece 8 [] 34 [some (.ref 4), some (.int (nI j)), some (.int (nI 1))] [.ref 32, .ref 28, .ref 111] S rfl ⟨by decide, by decide, rfl⟩ ⟨⟨⟨⟨⟨trivial, ⟨by first | assumption | rfl | decide | omega | exact Nat.succ_ne_zero _, by first | assumption | rfl | decide | omega | exact Nat.succ_ne_zero _⟩⟩, ⟨by first | assumption | rfl | decide | omega | exact Nat.succ_ne_zero _, by first | assumption | rfl | decide | omega | exact Nat.succ_ne_zero _⟩⟩, ⟨by first | assumption | rfl | decide | omega | exact Nat.succ_ne_zero _, by first | assumption | rfl | decide | omega | exact Nat.succ_ne_zero _⟩⟩, ⟨by first | assumption | rfl | decide | omega | exact Nat.succ_ne_zero _, by first | assumption | rfl | decide | omega | exact Nat.succ_ne_zero _⟩⟩, ⟨by first | assumption | rfl | decide | omega | exact Nat.succ_ne_zero _, by first | assumption | rfl | decide | omega | exact Nat.succ_ne_zero _⟩⟩ ?_
          refine tf_cV hx ftX10_piece (nx := 37) (As := [.ref 28, .ref 32]) (rest := []) (st2 := []) (n_cut hS hg hb) rfl lX10_145 (by first | assumption | rfl | decide) rfl ⟨rfl, by decide, by decide, by decide, rfl, rfl⟩ ?_
          refine tf_go hx ftX10_piece 1 [] 38 [some (.ref 4), some (.int (nI j)), some (.int (nI 1))] [.int (nI 1)] (tf_px S A.1) rfl ⟨by decide, by decide, rfl⟩ trivial ?_
          refine tf_go hx ftX10_piece 1 [true] 50 [some (.ref 4), some (.int (nI j)), some (.int (nI 1))] [] (tf_px S A.1) rfl ⟨by decide, by decide, rfl⟩ ⟨trivial, (by decide)⟩ ?_
          refine tf_go hx ftX10_piece 2 [] 52 [some (.ref 4), some (.int (nI j)), some (.int (nI 1))] [.int 1, .int (nI 1)] (tf_px S A.1) rfl ⟨by decide, by decide, rfl⟩ trivial ?_
          refine tf_go hx ftX10_piece 1 [false] 55 [some (.ref 4), some (.int (nI j)), some (.int (nI 1))] [] (tf_px S A.1) rfl ⟨by decide, by decide, rfl⟩ ⟨trivial, (by decide)⟩ ?_
          refine tf_go hx ftX10_piece 3 [] 60 [some (.ref 4), some (.int (nI j)), some (.int (nI 1))] [.int (nI j), .ref 111] (tf_px S A.1) rfl ⟨by decide, by decide, rfl⟩ ⟨trivial, ⟨by first | assumption | rfl | decide | omega | exact Nat.succ_ne_zero _, by first | assumption | rfl | decide | omega | exact Nat.succ_ne_zero _⟩⟩ ?_
          refine tf_cV hx ftX10_piece (nx := 63) (As := [.int (nI j)]) (rest := []) (st2 := [.int (nI (tf_sz A.1 (tf_wd A.1 (tf_ps A.1 j))))]) ((by have h := q_lengthAt (N := N) (S := S) (f := A.1) (a := tf_np A.1 40 0) (b := tf_np A.1 40 0) (c := tf_np A.1 40 0) (e := A.1 364) (nI j) (nw_np hg).1; rw [if_pos c1, i_cl] at h; exact h)) rfl lX10_152 (by first | assumption | rfl | decide) rfl ⟨rfl, by decide, by decide, by decide, rfl, rfl⟩ ?_
          refine tf_go hx ftX10_piece 1 [] 74 [some (.ref 4), some (.int (nI j)), some (.int (nI 1))] [.int (nI (tf_sz A.1 (tf_wd A.1 (tf_ps A.1 j))))] (tf_px S A.1) rfl ⟨by decide, by decide, rfl⟩ trivial ?_
          exact tf_ret ftX10_piece hR rfl ⟨by decide, by decide⟩ rfl rfl rfl
        · have a2 : w1 = 2 := by omega
          subst a2
          rw [if_neg (by decide), if_neg (by decide)]
          refine ⟨tf_px S A.1, tf_Fn_of (own := RX10) false ⟨by decide, rfl, by decide⟩ (Nat.le_of_ble_eq_true rfl) trivial (fun x hx hR => ?_), cs_sx hA hC tf_sx_px, fc_sx tf_sx_px⟩
          show tf_K x 0 0 (tf_GG N) S 0 [some (.ref 4), some (.int (nI j)), some (.int (nI 2))] []
          refine tf_go hx ftX10_piece 1 [] 1 [some (.ref 4), some (.int (nI j)), some (.int (nI 2))] [.int (nI 2)] S rfl ⟨by decide, by decide, rfl⟩ trivial ?_
          refine tf_go hx ftX10_piece 1 [false] 4 [some (.ref 4), some (.int (nI j)), some (.int (nI 2))] [] S rfl ⟨by decide, by decide, rfl⟩ ⟨trivial, (by decide)⟩ ?_
          refine tf_go hx ftX10_piece 2 [] 6 [some (.ref 4), some (.int (nI j)), some (.int (nI 2))] [.int 2, .int (nI 2)] S rfl ⟨by decide, by decide, rfl⟩ trivial ?_
          refine tf_go hx ftX10_piece 1 [true] 16 [some (.ref 4), some (.int (nI j)), some (.int (nI 2))] [] S rfl ⟨by decide, by decide, rfl⟩ ⟨trivial, (by decide)⟩ ?_
          refine tf_go hx ftX10_piece 8 [] 34 [some (.ref 4), some (.int (nI j)), some (.int (nI 2))] [.ref 32, .ref 28, .ref 111] S rfl ⟨by decide, by decide, rfl⟩ ⟨⟨⟨⟨⟨trivial, ⟨by first | assumption | rfl | decide | omega | exact Nat.succ_ne_zero _, by first | assumption | rfl | decide | omega | exact Nat.succ_ne_zero _⟩⟩, ⟨by first | assumption | rfl | decide | omega | exact Nat.succ_ne_zero _, by first | assumption | rfl | decide | omega | exact Nat.succ_ne_zero _⟩⟩, ⟨by first | assumption | rfl | decide | omega | exact Nat.succ_ne_zero _, by first | assumption | rfl | decide | omega | exact Nat.succ_ne_zero _⟩⟩, ⟨by first | assumption | rfl | decide | omega | exact Nat.succ_ne_zero _, by first | assumption | rfl | decide | omega | exact Nat.succ_ne_zero _⟩⟩, ⟨by first | assumption | rfl | decide | omega | exact Nat.succ_ne_zero _, by first | assumption | rfl | decide | omega | exact Nat.succ_ne_zero _⟩⟩ ?_
          refine tf_cV hx ftX10_piece (nx := 37) (As := [.ref 28, .ref 32]) (rest := []) (st2 := []) (n_cut hS hg hb) rfl lX10_145 (by first | assumption | rfl | decide) rfl ⟨rfl, by decide, by decide, by decide, rfl, rfl⟩ ?_
          refine tf_go hx ftX10_piece 1 [] 38 [some (.ref 4), some (.int (nI j)), some (.int (nI 2))] [.int (nI 2)] (tf_px S A.1) rfl ⟨by decide, by decide, rfl⟩ trivial ?_
          refine tf_go hx ftX10_piece 1 [true] 50 [some (.ref 4), some (.int (nI j)), some (.int (nI 2))] [] (tf_px S A.1) rfl ⟨by decide, by decide, rfl⟩ ⟨trivial, (by decide)⟩ ?_
          refine tf_go hx ftX10_piece 2 [] 52 [some (.ref 4), some (.int (nI j)), some (.int (nI 2))] [.int 1, .int (nI 2)] (tf_px S A.1) rfl ⟨by decide, by decide, rfl⟩ trivial ?_
          refine tf_go hx ftX10_piece 1 [true] 66 [some (.ref 4), some (.int (nI j)), some (.int (nI 2))] [] (tf_px S A.1) rfl ⟨by decide, by decide, rfl⟩ ⟨trivial, (by decide)⟩ ?_
          refine tf_go hx ftX10_piece 3 [] 71 [some (.ref 4), some (.int (nI j)), some (.int (nI 2))] [.int (nI j), .ref 111] (tf_px S A.1) rfl ⟨by decide, by decide, rfl⟩ ⟨trivial, ⟨by first | assumption | rfl | decide | omega | exact Nat.succ_ne_zero _, by first | assumption | rfl | decide | omega | exact Nat.succ_ne_zero _⟩⟩ ?_
          refine tf_cV hx ftX10_piece (nx := 74) (As := [.int (nI j)]) (rest := []) (st2 := [.int (tf_on 10 (tf_wd A.1 (tf_ps A.1 j)))]) ((by have h := q_wordAt (N := N) (S := S) (f := A.1) (a := tf_np A.1 40 0) (b := tf_np A.1 40 0) (c := tf_np A.1 40 0) (e := A.1 364) (nI j) (nw_np hg).1; rw [if_pos c1, i_cl] at h; exact h)) rfl lX10_155 (by first | assumption | rfl | decide) rfl ⟨rfl, by decide, by decide, by decide, rfl, rfl⟩ ?_
          exact tf_ret ftX10_piece hR rfl ⟨by decide, by decide⟩ rfl rfl rfl
    · have pa : tf_pa A.1 i = 40 := tf_pa_out hg (j := tf_np A.1 40 0) (fun r hr => ⟨(nw_np hg).2 r hr, fun e => c1 ⟨by rw [← e]; exact nI_pos (by have := (nw_np hg).1; omega), by rw [← e]; exact nI_ge hr (by have := (nw_np hg).1; omega)⟩⟩) (nw_npe hg)
      have pv : tf_pv A.1 i (nI w1) = -9 := by unfold tf_pv; rw [pa, if_neg (by omega)]
      rw [pv]
      by_cases a0 : w1 = 0
      · subst a0
        refine ⟨tf_px S A.1, tf_Fn_of (own := RX10) false ⟨by decide, rfl, by decide⟩ (Nat.le_of_ble_eq_true rfl) trivial (fun x hx hR => ?_), cs_sx hA hC tf_sx_px, fc_sx tf_sx_px⟩
        show tf_K x 0 0 (tf_GG N) S 0 [some (.ref 4), some (.int i), some (.int (nI 0))] []
        refine tf_go hx ftX10_piece 1 [] 1 [some (.ref 4), some (.int i), some (.int (nI 0))] [.int (nI 0)] S rfl ⟨by decide, by decide, rfl⟩ trivial ?_
        refine tf_go hx ftX10_piece 1 [false] 4 [some (.ref 4), some (.int i), some (.int (nI 0))] [] S rfl ⟨by decide, by decide, rfl⟩ ⟨trivial, (by decide)⟩ ?_
        refine tf_go hx ftX10_piece 2 [] 6 [some (.ref 4), some (.int i), some (.int (nI 0))] [.int 2, .int (nI 0)] S rfl ⟨by decide, by decide, rfl⟩ trivial ?_
        refine tf_go hx ftX10_piece 1 [true] 16 [some (.ref 4), some (.int i), some (.int (nI 0))] [] S rfl ⟨by decide, by decide, rfl⟩ ⟨trivial, (by decide)⟩ ?_
        refine tf_go hx ftX10_piece 8 [] 34 [some (.ref 4), some (.int i), some (.int (nI 0))] [.ref 32, .ref 28, .ref 111] S rfl ⟨by decide, by decide, rfl⟩ ⟨⟨⟨⟨⟨trivial, ⟨by first | assumption | rfl | decide | omega | exact Nat.succ_ne_zero _, by first | assumption | rfl | decide | omega | exact Nat.succ_ne_zero _⟩⟩, ⟨by first | assumption | rfl | decide | omega | exact Nat.succ_ne_zero _, by first | assumption | rfl | decide | omega | exact Nat.succ_ne_zero _⟩⟩, ⟨by first | assumption | rfl | decide | omega | exact Nat.succ_ne_zero _, by first | assumption | rfl | decide | omega | exact Nat.succ_ne_zero _⟩⟩, ⟨by first | assumption | rfl | decide | omega | exact Nat.succ_ne_zero _, by first | assumption | rfl | decide | omega | exact Nat.succ_ne_zero _⟩⟩, ⟨by first | assumption | rfl | decide | omega | exact Nat.succ_ne_zero _, by first | assumption | rfl | decide | omega | exact Nat.succ_ne_zero _⟩⟩ ?_
        refine tf_cV hx ftX10_piece (nx := 37) (As := [.ref 28, .ref 32]) (rest := []) (st2 := []) (n_cut hS hg hb) rfl lX10_145 (by first | assumption | rfl | decide) rfl ⟨rfl, by decide, by decide, by decide, rfl, rfl⟩ ?_
        refine tf_go hx ftX10_piece 1 [] 38 [some (.ref 4), some (.int i), some (.int (nI 0))] [.int (nI 0)] (tf_px S A.1) rfl ⟨by decide, by decide, rfl⟩ trivial ?_
        refine tf_go hx ftX10_piece 1 [false] 41 [some (.ref 4), some (.int i), some (.int (nI 0))] [] (tf_px S A.1) rfl ⟨by decide, by decide, rfl⟩ ⟨trivial, (by decide)⟩ ?_
        refine tf_go hx ftX10_piece 3 [] 46 [some (.ref 4), some (.int i), some (.int (nI 0))] [.int i, .ref 111] (tf_px S A.1) rfl ⟨by decide, by decide, rfl⟩ ⟨trivial, ⟨by first | assumption | rfl | decide | omega | exact Nat.succ_ne_zero _, by first | assumption | rfl | decide | omega | exact Nat.succ_ne_zero _⟩⟩ ?_
        refine tf_cV hx ftX10_piece (nx := 49) (As := [.int i]) (rest := []) (st2 := [.int (-9)]) ((by have h := q_beginAt (N := N) (S := S) (f := A.1) (a := tf_np A.1 40 0) (b := tf_np A.1 40 0) (c := tf_np A.1 40 0) (e := A.1 364) i (nw_np hg).1; rw [if_neg c1] at h; exact h)) rfl lX10_149 (by first | assumption | rfl | decide) rfl ⟨rfl, by decide, by decide, by decide, rfl, rfl⟩ ?_
        exact tf_ret ftX10_piece hR rfl ⟨by decide, by decide⟩ rfl rfl rfl
      · by_cases a1 : w1 = 1
        · subst a1
          refine ⟨tf_px S A.1, tf_Fn_of (own := RX10) false ⟨by decide, rfl, by decide⟩ (Nat.le_of_ble_eq_true rfl) trivial (fun x hx hR => ?_), cs_sx hA hC tf_sx_px, fc_sx tf_sx_px⟩
          show tf_K x 0 0 (tf_GG N) S 0 [some (.ref 4), some (.int i), some (.int (nI 1))] []
          refine tf_go hx ftX10_piece 1 [] 1 [some (.ref 4), some (.int i), some (.int (nI 1))] [.int (nI 1)] S rfl ⟨by decide, by decide, rfl⟩ trivial ?_
          refine tf_go hx ftX10_piece 1 [false] 4 [some (.ref 4), some (.int i), some (.int (nI 1))] [] S rfl ⟨by decide, by decide, rfl⟩ ⟨trivial, (by decide)⟩ ?_
          refine tf_go hx ftX10_piece 2 [] 6 [some (.ref 4), some (.int i), some (.int (nI 1))] [.int 2, .int (nI 1)] S rfl ⟨by decide, by decide, rfl⟩ trivial ?_
          refine tf_go hx ftX10_piece 1 [true] 16 [some (.ref 4), some (.int i), some (.int (nI 1))] [] S rfl ⟨by decide, by decide, rfl⟩ ⟨trivial, (by decide)⟩ ?_
          refine tf_go hx ftX10_piece 8 [] 34 [some (.ref 4), some (.int i), some (.int (nI 1))] [.ref 32, .ref 28, .ref 111] S rfl ⟨by decide, by decide, rfl⟩ ⟨⟨⟨⟨⟨trivial, ⟨by first | assumption | rfl | decide | omega | exact Nat.succ_ne_zero _, by first | assumption | rfl | decide | omega | exact Nat.succ_ne_zero _⟩⟩, ⟨by first | assumption | rfl | decide | omega | exact Nat.succ_ne_zero _, by first | assumption | rfl | decide | omega | exact Nat.succ_ne_zero _⟩⟩, ⟨by first | assumption | rfl | decide | omega | exact Nat.succ_ne_zero _, by first | assumption | rfl | decide | omega | exact Nat.succ_ne_zero _⟩⟩, ⟨by first | assumption | rfl | decide | omega | exact Nat.succ_ne_zero _, by first | assumption | rfl | decide | omega | exact Nat.succ_ne_zero _⟩⟩, ⟨by first | assumption | rfl | decide | omega | exact Nat.succ_ne_zero _, by first | assumption | rfl | decide | omega | exact Nat.succ_ne_zero _⟩⟩ ?_
          refine tf_cV hx ftX10_piece (nx := 37) (As := [.ref 28, .ref 32]) (rest := []) (st2 := []) (n_cut hS hg hb) rfl lX10_145 (by first | assumption | rfl | decide) rfl ⟨rfl, by decide, by decide, by decide, rfl, rfl⟩ ?_
          refine tf_go hx ftX10_piece 1 [] 38 [some (.ref 4), some (.int i), some (.int (nI 1))] [.int (nI 1)] (tf_px S A.1) rfl ⟨by decide, by decide, rfl⟩ trivial ?_
          refine tf_go hx ftX10_piece 1 [true] 50 [some (.ref 4), some (.int i), some (.int (nI 1))] [] (tf_px S A.1) rfl ⟨by decide, by decide, rfl⟩ ⟨trivial, (by decide)⟩ ?_
          refine tf_go hx ftX10_piece 2 [] 52 [some (.ref 4), some (.int i), some (.int (nI 1))] [.int 1, .int (nI 1)] (tf_px S A.1) rfl ⟨by decide, by decide, rfl⟩ trivial ?_
          refine tf_go hx ftX10_piece 1 [false] 55 [some (.ref 4), some (.int i), some (.int (nI 1))] [] (tf_px S A.1) rfl ⟨by decide, by decide, rfl⟩ ⟨trivial, (by decide)⟩ ?_
          refine tf_go hx ftX10_piece 3 [] 60 [some (.ref 4), some (.int i), some (.int (nI 1))] [.int i, .ref 111] (tf_px S A.1) rfl ⟨by decide, by decide, rfl⟩ ⟨trivial, ⟨by first | assumption | rfl | decide | omega | exact Nat.succ_ne_zero _, by first | assumption | rfl | decide | omega | exact Nat.succ_ne_zero _⟩⟩ ?_
          refine tf_cV hx ftX10_piece (nx := 63) (As := [.int i]) (rest := []) (st2 := [.int (-9)]) ((by have h := q_lengthAt (N := N) (S := S) (f := A.1) (a := tf_np A.1 40 0) (b := tf_np A.1 40 0) (c := tf_np A.1 40 0) (e := A.1 364) i (nw_np hg).1; rw [if_neg c1] at h; exact h)) rfl lX10_152 (by first | assumption | rfl | decide) rfl ⟨rfl, by decide, by decide, by decide, rfl, rfl⟩ ?_
          refine tf_go hx ftX10_piece 1 [] 74 [some (.ref 4), some (.int i), some (.int (nI 1))] [.int (-9)] (tf_px S A.1) rfl ⟨by decide, by decide, rfl⟩ trivial ?_
          exact tf_ret ftX10_piece hR rfl ⟨by decide, by decide⟩ rfl rfl rfl
        · have a2 : w1 = 2 := by omega
          subst a2
          refine ⟨tf_px S A.1, tf_Fn_of (own := RX10) false ⟨by decide, rfl, by decide⟩ (Nat.le_of_ble_eq_true rfl) trivial (fun x hx hR => ?_), cs_sx hA hC tf_sx_px, fc_sx tf_sx_px⟩
          show tf_K x 0 0 (tf_GG N) S 0 [some (.ref 4), some (.int i), some (.int (nI 2))] []
          refine tf_go hx ftX10_piece 1 [] 1 [some (.ref 4), some (.int i), some (.int (nI 2))] [.int (nI 2)] S rfl ⟨by decide, by decide, rfl⟩ trivial ?_
          refine tf_go hx ftX10_piece 1 [false] 4 [some (.ref 4), some (.int i), some (.int (nI 2))] [] S rfl ⟨by decide, by decide, rfl⟩ ⟨trivial, (by decide)⟩ ?_
          refine tf_go hx ftX10_piece 2 [] 6 [some (.ref 4), some (.int i), some (.int (nI 2))] [.int 2, .int (nI 2)] S rfl ⟨by decide, by decide, rfl⟩ trivial ?_
          refine tf_go hx ftX10_piece 1 [true] 16 [some (.ref 4), some (.int i), some (.int (nI 2))] [] S rfl ⟨by decide, by decide, rfl⟩ ⟨trivial, (by decide)⟩ ?_
          refine tf_go hx ftX10_piece 8 [] 34 [some (.ref 4), some (.int i), some (.int (nI 2))] [.ref 32, .ref 28, .ref 111] S rfl ⟨by decide, by decide, rfl⟩ ⟨⟨⟨⟨⟨trivial, ⟨by first | assumption | rfl | decide | omega | exact Nat.succ_ne_zero _, by first | assumption | rfl | decide | omega | exact Nat.succ_ne_zero _⟩⟩, ⟨by first | assumption | rfl | decide | omega | exact Nat.succ_ne_zero _, by first | assumption | rfl | decide | omega | exact Nat.succ_ne_zero _⟩⟩, ⟨by first | assumption | rfl | decide | omega | exact Nat.succ_ne_zero _, by first | assumption | rfl | decide | omega | exact Nat.succ_ne_zero _⟩⟩, ⟨by first | assumption | rfl | decide | omega | exact Nat.succ_ne_zero _, by first | assumption | rfl | decide | omega | exact Nat.succ_ne_zero _⟩⟩, ⟨by first | assumption | rfl | decide | omega | exact Nat.succ_ne_zero _, by first | assumption | rfl | decide | omega | exact Nat.succ_ne_zero _⟩⟩ ?_
          refine tf_cV hx ftX10_piece (nx := 37) (As := [.ref 28, .ref 32]) (rest := []) (st2 := []) (n_cut hS hg hb) rfl lX10_145 (by first | assumption | rfl | decide) rfl ⟨rfl, by decide, by decide, by decide, rfl, rfl⟩ ?_
          refine tf_go hx ftX10_piece 1 [] 38 [some (.ref 4), some (.int i), some (.int (nI 2))] [.int (nI 2)] (tf_px S A.1) rfl ⟨by decide, by decide, rfl⟩ trivial ?_
          refine tf_go hx ftX10_piece 1 [true] 50 [some (.ref 4), some (.int i), some (.int (nI 2))] [] (tf_px S A.1) rfl ⟨by decide, by decide, rfl⟩ ⟨trivial, (by decide)⟩ ?_
          refine tf_go hx ftX10_piece 2 [] 52 [some (.ref 4), some (.int i), some (.int (nI 2))] [.int 1, .int (nI 2)] (tf_px S A.1) rfl ⟨by decide, by decide, rfl⟩ trivial ?_
          refine tf_go hx ftX10_piece 1 [true] 66 [some (.ref 4), some (.int i), some (.int (nI 2))] [] (tf_px S A.1) rfl ⟨by decide, by decide, rfl⟩ ⟨trivial, (by decide)⟩ ?_
          refine tf_go hx ftX10_piece 3 [] 71 [some (.ref 4), some (.int i), some (.int (nI 2))] [.int i, .ref 111] (tf_px S A.1) rfl ⟨by decide, by decide, rfl⟩ ⟨trivial, ⟨by first | assumption | rfl | decide | omega | exact Nat.succ_ne_zero _, by first | assumption | rfl | decide | omega | exact Nat.succ_ne_zero _⟩⟩ ?_
          refine tf_cV hx ftX10_piece (nx := 74) (As := [.int i]) (rest := []) (st2 := [.int (-9)]) ((by have h := q_wordAt (N := N) (S := S) (f := A.1) (a := tf_np A.1 40 0) (b := tf_np A.1 40 0) (c := tf_np A.1 40 0) (e := A.1 364) i (nw_np hg).1; rw [if_neg c1] at h; exact h)) rfl lX10_155 (by first | assumption | rfl | decide) rfl ⟨rfl, by decide, by decide, by decide, rfl, rfl⟩ ?_
          exact tf_ret ftX10_piece hR rfl ⟨by decide, by decide⟩ rfl rfl rfl
  · rw [if_neg (fun h => c0 h)]
    refine ⟨tf_set S 124 2 (S 124 2 + 1), tf_Fn_of (own := RX10) false ⟨by decide, rfl, by decide⟩ (Nat.le_of_ble_eq_true rfl) trivial (fun x hx hR => ?_), cs_ref hA hC 2, fc_set (by omega)⟩
    show tf_K x 0 0 (tf_GG N) S 0 [some (.ref 4), some (.int i), some (.int w)] []
    refine tf_go hx ftX10_piece 1 [] 1 [some (.ref 4), some (.int i), some (.int w)] [.int w] S rfl ⟨by decide, by decide, rfl⟩ trivial ?_
    by_cases z0 : w < 0
    · refine tf_go hx ftX10_piece 1 [true] 9 [some (.ref 4), some (.int i), some (.int w)] [] S rfl ⟨by decide, by decide, rfl⟩ ⟨trivial, (by first | assumption | rfl | decide | omega | exact Nat.succ_ne_zero _)⟩ ?_
      refine tf_go hx ftX10_piece 2 [] 12 [some (.ref 4), some (.int i), some (.int w)] [.int (-2), .ref 4] S rfl ⟨by decide, by decide, rfl⟩ trivial ?_
      refine tf_cV hx ftX10_piece (nx := 15) (As := [.int (-2)]) (rest := []) (st2 := [.int (-2)]) (n_ref2) rfl lX10_50 (by first | assumption | rfl | decide) rfl ⟨rfl, by decide, by decide, by decide, rfl, rfl⟩ ?_
      exact tf_ret ftX10_piece hR rfl ⟨by decide, by decide⟩ rfl rfl rfl
    · refine tf_go hx ftX10_piece 1 [false] 4 [some (.ref 4), some (.int i), some (.int w)] [] S rfl ⟨by decide, by decide, rfl⟩ ⟨trivial, (by first | assumption | rfl | decide | omega | exact Nat.succ_ne_zero _)⟩ ?_
      refine tf_go hx ftX10_piece 2 [] 6 [some (.ref 4), some (.int i), some (.int w)] [.int 2, .int w] S rfl ⟨by decide, by decide, rfl⟩ trivial ?_
      have z1 : 3 ≤ w := Classical.not_not.mp (fun z => c0 ⟨z0, z⟩)
      refine tf_go hx ftX10_piece 1 [false] 9 [some (.ref 4), some (.int i), some (.int w)] [] S rfl ⟨by decide, by decide, rfl⟩ ⟨trivial, (fun z => absurd (Int32.le_trans z1 z) (by decide))⟩ ?_
      refine tf_go hx ftX10_piece 2 [] 12 [some (.ref 4), some (.int i), some (.int w)] [.int (-2), .ref 4] S rfl ⟨by decide, by decide, rfl⟩ trivial ?_
      refine tf_cV hx ftX10_piece (nx := 15) (As := [.int (-2)]) (rest := []) (st2 := [.int (-2)]) (n_ref2) rfl lX10_50 (by first | assumption | rfl | decide) rfl ⟨rfl, by decide, by decide, by decide, rfl, rfl⟩ ?_
      exact tf_ret ftX10_piece hR rfl ⟨by decide, by decide⟩ rfl rfl rfl

set_option maxHeartbeats 2000000 in
theorem c_may {N : Nat} {S : tf_Sg} {A : tf_A} (b : Int32) (hA : tf_okA A) (hC : tf_cs S A)  : tf_cpq mX10_may 6 N S [.ref 4, .int b] (s_may A b) := by
  obtain ⟨hg, hb, hA3, hA4, hA5, hA6⟩ := id hA
  obtain ⟨h1j, hS, hK5, ⟨hT1, hT2⟩, hRf, hIm⟩ := id hC
  obtain ⟨⟨g1, g2, g3, g4⟩, g5, g6, g7, g8, g9, g10, g11⟩ := id hg
  unfold s_may
  by_cases c0 : ¬ b < 0 ∧ ¬ 4 ≤ b
  · rw [if_pos c0]
    obtain ⟨b1, b1_lt, b1_eq, b1_cl⟩ := tf_ok_nI (N := 4) (show tf_ok b _ from c0) rfl (by decide)
    try rw [b1_cl]
    subst b1_eq
    refine ⟨S, tf_Fn_of (own := RX10) false ⟨by decide, rfl, by decide⟩ (Nat.le_of_ble_eq_true rfl) trivial (fun x hx hR => ?_), hC, fc_id⟩
    show tf_K x 0 0 (tf_GG N) S 0 [some (.ref 4), some (.int (nI b1)), none, none] []
    refine tf_go hx ftX10_may 1 [] 1 [some (.ref 4), some (.int (nI b1)), none, none] [.int (nI b1)] S rfl ⟨by decide, by decide, rfl⟩ trivial ?_
    refine tf_cS hx ftX10_may (nx := 4) (As := [.int (nI b1)]) (rest := []) (st2 := [.int (if ¬ (nI b1) < 0 ∧ ¬ 4 ≤ (nI b1) then 0 else 1)]) (c_noBoard (nI b1)) rfl lX10_61 rfl ⟨rfl, by decide, by decide, by decide, rfl, rfl⟩ ?_
    rw [if_pos c0]
    refine tf_go hx ftX10_may 1 [true] 13 [some (.ref 4), some (.int (nI b1)), none, none] [] S rfl ⟨by decide, by decide, rfl⟩ ⟨trivial, (by decide)⟩ ?_
    refine tf_go hx ftX10_may 4 [] 17 [some (.ref 4), some (.int (nI b1)), some (.int 0), some (.int 0)] [] S rfl ⟨by decide, by decide, rfl⟩ trivial ?_
    have loop : ∀ (m k : Nat) (q : Int32), k + m = 8 → (tf_my A.1 b1 m k q = tf_my A.1 b1 8 0 0) → tf_K x 0 0 (tf_GG N) S 17 [some (.ref 4), some (.int (nI b1)), some (.int q), some (.int (nI k))] [] := by
      intro m
      induction m with
      | zero =>
        intro k q hk he
        refine tf_go hx ftX10_may 2 [] 20 [some (.ref 4), some (.int (nI b1)), some (.int q), some (.int (nI k))] [.int 8, .int (nI k)] S rfl ⟨by decide, by decide, rfl⟩ trivial ?_
        refine tf_go hx ftX10_may 2 [true] 66 [some (.ref 4), some (.int (nI b1)), some (.int q), some (.int (nI k))] [.int q] S rfl ⟨by decide, by decide, rfl⟩ ⟨trivial, (tf_leT (a := 8) (b := k) (rfl : (8 : Int32) = nI 8) rfl (by omega) (by omega) (by omega))⟩ ?_
        exact tf_ret ftX10_may hR rfl ⟨by decide, by decide⟩ rfl rfl (by rw [← he]; rfl)
      | succ m ih =>
        intro k q hk he
        rw [tf_my_s] at he
        refine tf_go hx ftX10_may 2 [] 20 [some (.ref 4), some (.int (nI b1)), some (.int q), some (.int (nI k))] [.int 8, .int (nI k)] S rfl ⟨by decide, by decide, rfl⟩ trivial ?_
        refine tf_go hx ftX10_may 1 [false] 23 [some (.ref 4), some (.int (nI b1)), some (.int q), some (.int (nI k))] [] S rfl ⟨by decide, by decide, rfl⟩ ⟨trivial, (tf_leF (a := 8) (b := k) (rfl : (8 : Int32) = nI 8) rfl (by omega) (by omega) (by omega))⟩ ?_
        refine tf_go hx ftX10_may 7 [] 38 [some (.ref 4), some (.int (nI b1)), some (.int q), some (.int (nI k))] [.ref 30, .ref 28, .int (nI k)] S rfl ⟨by decide, by decide, rfl⟩ ⟨⟨⟨⟨trivial, ⟨by first | assumption | rfl | decide | omega | exact Nat.succ_ne_zero _, by first | assumption | rfl | decide | omega | exact Nat.succ_ne_zero _⟩⟩, ⟨by first | assumption | rfl | decide | omega | exact Nat.succ_ne_zero _, by first | assumption | rfl | decide | omega | exact Nat.succ_ne_zero _⟩⟩, ⟨by first | assumption | rfl | decide | omega | exact Nat.succ_ne_zero _, by first | assumption | rfl | decide | omega | exact Nat.succ_ne_zero _⟩⟩, ⟨by first | assumption | rfl | decide | omega | exact Nat.succ_ne_zero _, by first | assumption | rfl | decide | omega | exact Nat.succ_ne_zero _⟩⟩ ?_
        have ar : tf_rf (tf_GG N) 6 (Int32.toNatClampNeg (nI b1)) = 7 + 3 * b1 := by rw [tf_cl_nI (by omega)]; exact (bdn b1_lt).2.2.2
        have arn : tf_rf (tf_GG N) 6 (Int32.toNatClampNeg (nI b1)) ≠ 0 := by rw [ar]; omega
        refine tf_go hx ftX10_may 5 [] 47 [some (.ref 4), some (.int (nI b1)), some (.int q), some (.int (nI k))] [.ref (tf_rf (tf_GG N) 6 (Int32.toNatClampNeg (nI b1))), .ref 30, .ref 28, .int (nI k)] S rfl ⟨by decide, by decide, rfl⟩ ⟨⟨⟨trivial, ⟨by first | assumption | rfl | decide | omega | exact Nat.succ_ne_zero _, by first | assumption | rfl | decide | omega | exact Nat.succ_ne_zero _⟩⟩, ⟨by first | assumption | rfl | decide | omega | exact Nat.succ_ne_zero _, by first | assumption | rfl | decide | omega | exact Nat.succ_ne_zero _⟩⟩, ⟨by first | assumption | exact Or.inl rfl | exact Or.inr (Or.inl rfl) | exact Or.inr (Or.inr rfl) | omega, by exact tf_in (n := b1) (N := 4) rfl (by first | assumption | rfl) (by omega) (by decide), by first | assumption | rfl | decide | omega | exact Nat.succ_ne_zero _⟩⟩ ?_
        rw [ar]
        clear ar arn
        have tb : tf_tg (tf_GG N) (7 + 3 * b1) = 0 := (bdn b1_lt).1.1
        refine tf_cS hx ftX10_may (nx := 50) (As := [.int (nI k), .ref 28, .ref 30, .ref (7 + 3 * b1)]) (rest := []) (st2 := [.int (tf_on 41 (tf_wo A.1 b1 k))]) (l_place (f := A.1) b1 k (nw_M hS hg) (nw_W hS hg) hb (bdn b1_lt).1 (nw_B hS b1_lt) (fun k hk => g10 _ (by omega)) g6 g7 (by omega)) rfl lX10_162 rfl ⟨rfl, by decide, by decide, by decide, rfl, rfl⟩ ?_
        by_cases e1 : tf_wo A.1 b1 k < 41
        · rw [if_pos e1] at he
          rw [tf_on_y e1]
          refine tf_go hx ftX10_may 9 [false] 17 [some (.ref 4), some (.int (nI b1)), some (.int (q ||| (1 <<< ((nI k) &&& 31)))), some (.int ((nI k) + 1))] [] S rfl ⟨by decide, by decide, rfl⟩ ⟨trivial, (tf_ltF (a := (tf_wo A.1 b1 k)) (b := 0) rfl (rfl : (0 : Int32) = nI 0) (by have := hb b1; omega) (by have := hb b1; omega) (by have := hb b1; omega))⟩ ?_
          rw [show ((nI k) + 1) = nI (k + 1) from (tf_add (a := k) (b := 1) rfl (rfl : (1 : Int32) = nI 1))]
          exact ih (k + 1) _ (by omega) he
        · rw [if_neg e1] at he
          rw [tf_on_n e1]
          refine tf_go hx ftX10_may 1 [true] 59 [some (.ref 4), some (.int (nI b1)), some (.int q), some (.int (nI k))] [] S rfl ⟨by decide, by decide, rfl⟩ ⟨trivial, (by decide)⟩ ?_
          refine tf_go hx ftX10_may 2 [] 17 [some (.ref 4), some (.int (nI b1)), some (.int q), some (.int ((nI k) + 1))] [] S rfl ⟨by decide, by decide, rfl⟩ trivial ?_
          rw [show ((nI k) + 1) = nI (k + 1) from (tf_add (a := k) (b := 1) rfl (rfl : (1 : Int32) = nI 1))]
          exact ih (k + 1) q (by omega) he
    exact loop 8 0 0 rfl rfl
  · rw [if_neg (fun h => c0 h)]
    refine ⟨tf_set S 124 1 (S 124 1 + 1), tf_Fn_of (own := RX10) false ⟨by decide, rfl, by decide⟩ (Nat.le_of_ble_eq_true rfl) trivial (fun x hx hR => ?_), cs_ref hA hC 1, fc_set (by omega)⟩
    show tf_K x 0 0 (tf_GG N) S 0 [some (.ref 4), some (.int b), none, none] []
    refine tf_go hx ftX10_may 1 [] 1 [some (.ref 4), some (.int b), none, none] [.int b] S rfl ⟨by decide, by decide, rfl⟩ trivial ?_
    refine tf_cS hx ftX10_may (nx := 4) (As := [.int b]) (rest := []) (st2 := [.int (if ¬ b < 0 ∧ ¬ 4 ≤ b then 0 else 1)]) (c_noBoard b) rfl lX10_61 rfl ⟨rfl, by decide, by decide, by decide, rfl, rfl⟩ ?_
    rw [if_neg c0]
    refine tf_go hx ftX10_may 1 [false] 7 [some (.ref 4), some (.int b), none, none] [] S rfl ⟨by decide, by decide, rfl⟩ ⟨trivial, (by decide)⟩ ?_
    refine tf_go hx ftX10_may 2 [] 9 [some (.ref 4), some (.int b), none, none] [.int (-1), .ref 4] S rfl ⟨by decide, by decide, rfl⟩ trivial ?_
    refine tf_cV hx ftX10_may (nx := 12) (As := [.int (-1)]) (rest := []) (st2 := [.int (-1)]) (n_ref1) rfl lX10_50 (by first | assumption | rfl | decide) rfl ⟨rfl, by decide, by decide, by decide, rfl, rfl⟩ ?_
    exact tf_ret ftX10_may hR rfl ⟨by decide, by decide⟩ rfl rfl rfl

set_option maxHeartbeats 2000000 in
theorem c_where {N : Nat} {S : tf_Sg} {A : tf_A} (b k : Int32) (hA : tf_okA A) (hC : tf_cs S A)  : tf_cpq mX10_where 6 N S [.ref 4, .int b, .int k] (s_where A b k) := by
  obtain ⟨hg, hb, hA3, hA4, hA5, hA6⟩ := id hA
  obtain ⟨h1j, hS, hK5, ⟨hT1, hT2⟩, hRf, hIm⟩ := id hC
  obtain ⟨⟨g1, g2, g3, g4⟩, g5, g6, g7, g8, g9, g10, g11⟩ := id hg
  unfold s_where
  by_cases c0 : ¬ b < 0 ∧ ¬ 4 ≤ b
  · rw [if_pos c0]
    obtain ⟨b1, b1_lt, b1_eq, b1_cl⟩ := tf_ok_nI (N := 4) (show tf_ok b _ from c0) rfl (by decide)
    try rw [b1_cl]
    subst b1_eq
    by_cases d1 : ¬ k < 0 ∧ ¬ 8 ≤ k
    · rw [if_pos d1]
      obtain ⟨k1, k1_lt, k1_eq, k1_cl⟩ := tf_ok_nI (N := 8) (show tf_ok k _ from d1) rfl (by decide)
      try rw [k1_cl]
      subst k1_eq
      refine ⟨S, tf_Fn_of (own := RX10) false ⟨by decide, rfl, by decide⟩ (Nat.le_of_ble_eq_true rfl) trivial (fun x hx hR => ?_), hC, fc_id⟩
      show tf_K x 0 0 (tf_GG N) S 0 [some (.ref 4), some (.int (nI b1)), some (.int (nI k1))] []
      refine tf_go hx ftX10_where 1 [] 1 [some (.ref 4), some (.int (nI b1)), some (.int (nI k1))] [.int (nI b1)] S rfl ⟨by decide, by decide, rfl⟩ trivial ?_
      refine tf_cS hx ftX10_where (nx := 4) (As := [.int (nI b1)]) (rest := []) (st2 := [.int (if ¬ (nI b1) < 0 ∧ ¬ 4 ≤ (nI b1) then 0 else 1)]) (c_noBoard (nI b1)) rfl lX10_61 rfl ⟨rfl, by decide, by decide, by decide, rfl, rfl⟩ ?_
      rw [if_pos c0]
      refine tf_go hx ftX10_where 1 [true] 13 [some (.ref 4), some (.int (nI b1)), some (.int (nI k1))] [] S rfl ⟨by decide, by decide, rfl⟩ ⟨trivial, (by decide)⟩ ?_
      refine tf_go hx ftX10_where 1 [] 14 [some (.ref 4), some (.int (nI b1)), some (.int (nI k1))] [.int (nI k1)] S rfl ⟨by decide, by decide, rfl⟩ trivial ?_
      refine tf_go hx ftX10_where 1 [false] 17 [some (.ref 4), some (.int (nI b1)), some (.int (nI k1))] [] S rfl ⟨by decide, by decide, rfl⟩ ⟨trivial, (tf_ltF (a := k1) (b := 0) rfl (rfl : (0 : Int32) = nI 0) (by omega) (by omega) (by omega))⟩ ?_
      refine tf_go hx ftX10_where 2 [] 20 [some (.ref 4), some (.int (nI b1)), some (.int (nI k1))] [.int 8, .int (nI k1)] S rfl ⟨by decide, by decide, rfl⟩ trivial ?_
      refine tf_go hx ftX10_where 1 [true] 30 [some (.ref 4), some (.int (nI b1)), some (.int (nI k1))] [] S rfl ⟨by decide, by decide, rfl⟩ ⟨trivial, (tf_ltT (a := k1) (b := 8) rfl (rfl : (8 : Int32) = nI 8) (by omega) (by omega) (by omega))⟩ ?_
      refine tf_go hx ftX10_where 7 [] 45 [some (.ref 4), some (.int (nI b1)), some (.int (nI k1))] [.ref 30, .ref 28, .int (nI k1)] S rfl ⟨by decide, by decide, rfl⟩ ⟨⟨⟨⟨trivial, ⟨by first | assumption | rfl | decide | omega | exact Nat.succ_ne_zero _, by first | assumption | rfl | decide | omega | exact Nat.succ_ne_zero _⟩⟩, ⟨by first | assumption | rfl | decide | omega | exact Nat.succ_ne_zero _, by first | assumption | rfl | decide | omega | exact Nat.succ_ne_zero _⟩⟩, ⟨by first | assumption | rfl | decide | omega | exact Nat.succ_ne_zero _, by first | assumption | rfl | decide | omega | exact Nat.succ_ne_zero _⟩⟩, ⟨by first | assumption | rfl | decide | omega | exact Nat.succ_ne_zero _, by first | assumption | rfl | decide | omega | exact Nat.succ_ne_zero _⟩⟩ ?_
      have ar : tf_rf (tf_GG N) 6 (Int32.toNatClampNeg (nI b1)) = 7 + 3 * b1 := by rw [tf_cl_nI (by omega)]; exact (bdn b1_lt).2.2.2
      have arn : tf_rf (tf_GG N) 6 (Int32.toNatClampNeg (nI b1)) ≠ 0 := by rw [ar]; omega
      refine tf_go hx ftX10_where 5 [] 54 [some (.ref 4), some (.int (nI b1)), some (.int (nI k1))] [.ref (tf_rf (tf_GG N) 6 (Int32.toNatClampNeg (nI b1))), .ref 30, .ref 28, .int (nI k1)] S rfl ⟨by decide, by decide, rfl⟩ ⟨⟨⟨trivial, ⟨by first | assumption | rfl | decide | omega | exact Nat.succ_ne_zero _, by first | assumption | rfl | decide | omega | exact Nat.succ_ne_zero _⟩⟩, ⟨by first | assumption | rfl | decide | omega | exact Nat.succ_ne_zero _, by first | assumption | rfl | decide | omega | exact Nat.succ_ne_zero _⟩⟩, ⟨by first | assumption | exact Or.inl rfl | exact Or.inr (Or.inl rfl) | exact Or.inr (Or.inr rfl) | omega, by exact tf_in (n := b1) (N := 4) rfl (by first | assumption | rfl) (by omega) (by decide), by first | assumption | rfl | decide | omega | exact Nat.succ_ne_zero _⟩⟩ ?_
      rw [ar]
      clear ar arn
      have tb : tf_tg (tf_GG N) (7 + 3 * b1) = 0 := (bdn b1_lt).1.1
      refine tf_cS hx ftX10_where (nx := 57) (As := [.int (nI k1), .ref 28, .ref 30, .ref (7 + 3 * b1)]) (rest := []) (st2 := [.int (tf_on 41 (tf_wo A.1 b1 k1))]) (l_place (f := A.1) b1 k1 (nw_M hS hg) (nw_W hS hg) hb (bdn b1_lt).1 (nw_B hS b1_lt) (fun k hk => g10 _ (by omega)) g6 g7 k1_lt) rfl lX10_162 rfl ⟨rfl, by decide, by decide, by decide, rfl, rfl⟩ ?_
      exact tf_ret ftX10_where hR rfl ⟨by decide, by decide⟩ rfl rfl rfl
    · rw [if_neg d1]
      refine ⟨tf_set S 124 2 (S 124 2 + 1), tf_Fn_of (own := RX10) false ⟨by decide, rfl, by decide⟩ (Nat.le_of_ble_eq_true rfl) trivial (fun x hx hR => ?_), cs_ref hA hC 2, fc_set (by omega)⟩
      show tf_K x 0 0 (tf_GG N) S 0 [some (.ref 4), some (.int (nI b1)), some (.int k)] []
      refine tf_go hx ftX10_where 1 [] 1 [some (.ref 4), some (.int (nI b1)), some (.int k)] [.int (nI b1)] S rfl ⟨by decide, by decide, rfl⟩ trivial ?_
      refine tf_cS hx ftX10_where (nx := 4) (As := [.int (nI b1)]) (rest := []) (st2 := [.int (if ¬ (nI b1) < 0 ∧ ¬ 4 ≤ (nI b1) then 0 else 1)]) (c_noBoard (nI b1)) rfl lX10_61 rfl ⟨rfl, by decide, by decide, by decide, rfl, rfl⟩ ?_
      rw [if_pos c0]
      refine tf_go hx ftX10_where 1 [true] 13 [some (.ref 4), some (.int (nI b1)), some (.int k)] [] S rfl ⟨by decide, by decide, rfl⟩ ⟨trivial, (by decide)⟩ ?_
      refine tf_go hx ftX10_where 1 [] 14 [some (.ref 4), some (.int (nI b1)), some (.int k)] [.int k] S rfl ⟨by decide, by decide, rfl⟩ trivial ?_
      by_cases z0 : k < 0
      · refine tf_go hx ftX10_where 1 [true] 23 [some (.ref 4), some (.int (nI b1)), some (.int k)] [] S rfl ⟨by decide, by decide, rfl⟩ ⟨trivial, (by first | assumption | rfl | decide | omega | exact Nat.succ_ne_zero _)⟩ ?_
        refine tf_go hx ftX10_where 2 [] 26 [some (.ref 4), some (.int (nI b1)), some (.int k)] [.int (-2), .ref 4] S rfl ⟨by decide, by decide, rfl⟩ trivial ?_
        refine tf_cV hx ftX10_where (nx := 29) (As := [.int (-2)]) (rest := []) (st2 := [.int (-2)]) (n_ref2) rfl lX10_50 (by first | assumption | rfl | decide) rfl ⟨rfl, by decide, by decide, by decide, rfl, rfl⟩ ?_
        exact tf_ret ftX10_where hR rfl ⟨by decide, by decide⟩ rfl rfl rfl
      · refine tf_go hx ftX10_where 1 [false] 17 [some (.ref 4), some (.int (nI b1)), some (.int k)] [] S rfl ⟨by decide, by decide, rfl⟩ ⟨trivial, (by first | assumption | rfl | decide | omega | exact Nat.succ_ne_zero _)⟩ ?_
        refine tf_go hx ftX10_where 2 [] 20 [some (.ref 4), some (.int (nI b1)), some (.int k)] [.int 8, .int k] S rfl ⟨by decide, by decide, rfl⟩ trivial ?_
        have z1 : 8 ≤ k := Classical.not_not.mp (fun z => d1 ⟨z0, z⟩)
        refine tf_go hx ftX10_where 1 [false] 23 [some (.ref 4), some (.int (nI b1)), some (.int k)] [] S rfl ⟨by decide, by decide, rfl⟩ ⟨trivial, (Int32.not_lt.mpr z1)⟩ ?_
        refine tf_go hx ftX10_where 2 [] 26 [some (.ref 4), some (.int (nI b1)), some (.int k)] [.int (-2), .ref 4] S rfl ⟨by decide, by decide, rfl⟩ trivial ?_
        refine tf_cV hx ftX10_where (nx := 29) (As := [.int (-2)]) (rest := []) (st2 := [.int (-2)]) (n_ref2) rfl lX10_50 (by first | assumption | rfl | decide) rfl ⟨rfl, by decide, by decide, by decide, rfl, rfl⟩ ?_
        exact tf_ret ftX10_where hR rfl ⟨by decide, by decide⟩ rfl rfl rfl
  · rw [if_neg (fun h => c0 h)]
    refine ⟨tf_set S 124 1 (S 124 1 + 1), tf_Fn_of (own := RX10) false ⟨by decide, rfl, by decide⟩ (Nat.le_of_ble_eq_true rfl) trivial (fun x hx hR => ?_), cs_ref hA hC 1, fc_set (by omega)⟩
    show tf_K x 0 0 (tf_GG N) S 0 [some (.ref 4), some (.int b), some (.int k)] []
    refine tf_go hx ftX10_where 1 [] 1 [some (.ref 4), some (.int b), some (.int k)] [.int b] S rfl ⟨by decide, by decide, rfl⟩ trivial ?_
    refine tf_cS hx ftX10_where (nx := 4) (As := [.int b]) (rest := []) (st2 := [.int (if ¬ b < 0 ∧ ¬ 4 ≤ b then 0 else 1)]) (c_noBoard b) rfl lX10_61 rfl ⟨rfl, by decide, by decide, by decide, rfl, rfl⟩ ?_
    rw [if_neg c0]
    refine tf_go hx ftX10_where 1 [false] 7 [some (.ref 4), some (.int b), some (.int k)] [] S rfl ⟨by decide, by decide, rfl⟩ ⟨trivial, (by decide)⟩ ?_
    refine tf_go hx ftX10_where 2 [] 9 [some (.ref 4), some (.int b), some (.int k)] [.int (-1), .ref 4] S rfl ⟨by decide, by decide, rfl⟩ trivial ?_
    refine tf_cV hx ftX10_where (nx := 12) (As := [.int (-1)]) (rest := []) (st2 := [.int (-1)]) (n_ref1) rfl lX10_50 (by first | assumption | rfl | decide) rfl ⟨rfl, by decide, by decide, by decide, rfl, rfl⟩ ?_
    exact tf_ret ftX10_where hR rfl ⟨by decide, by decide⟩ rfl rfl rfl

set_option maxHeartbeats 2000000 in
theorem c_exchange {N : Nat} {S : tf_Sg} {A : tf_A} (b u w : Int32) (hA : tf_okA A) (hC : tf_cs S A)  : tf_cpq mX10_exchange 4 N S [.ref 4, .int b, .int u, .int w] (s_exchange A b u w) := by
  obtain ⟨hg, hb, hA3, hA4, hA5, hA6⟩ := id hA
  obtain ⟨h1j, hS, hK5, ⟨hT1, hT2⟩, hRf, hIm⟩ := id hC
  obtain ⟨⟨g1, g2, g3, g4⟩, g5, g6, g7, g8, g9, g10, g11⟩ := id hg
  unfold s_exchange
  by_cases c0 : ¬ b < 0 ∧ ¬ 4 ≤ b
  · by_cases c1 : ¬ u < 0 ∧ ¬ 30 ≤ u
    · by_cases c2 : ¬ w < 0 ∧ ¬ 30 ≤ w
      · by_cases c3 : u ≠ w
        · rw [if_pos ⟨c0, c1, c2, c3⟩]
          obtain ⟨b1, b1_lt, b1_eq, b1_cl⟩ := tf_ok_nI (N := 4) (show tf_ok b _ from c0) rfl (by decide)
          try rw [b1_cl]
          obtain ⟨u1, u1_lt, u1_eq, u1_cl⟩ := tf_ok_nI (N := 30) (show tf_ok u _ from c1) rfl (by decide)
          try rw [u1_cl]
          obtain ⟨w1, w1_lt, w1_eq, w1_cl⟩ := tf_ok_nI (N := 30) (show tf_ok w _ from c2) rfl (by decide)
          try rw [w1_cl]
          subst b1_eq
          subst u1_eq
          subst w1_eq
          refine ⟨tf_bp S (8 + 3 * b1) (9 + 3 * b1) (tf_pe (fun k => A.1 (30 * b1 + k)) u1 w1), tf_Fn_of (own := RX10) false ⟨by decide, rfl, by decide⟩ (Nat.le_of_ble_eq_true rfl) trivial (fun x hx hR => ?_), cs_f hA hC (nx_bp b1_lt) (st_swap hS hg b1_lt u1_lt w1_lt), fc_nx (nx_bp b1_lt)⟩
          show tf_K x 0 0 (tf_GG N) S 0 [some (.ref 4), some (.int (nI b1)), some (.int (nI u1)), some (.int (nI w1))] []
          refine tf_go hx ftX10_exchange 1 [] 1 [some (.ref 4), some (.int (nI b1)), some (.int (nI u1)), some (.int (nI w1))] [.int (nI b1)] S rfl ⟨by decide, by decide, rfl⟩ trivial ?_
          refine tf_cS hx ftX10_exchange (nx := 4) (As := [.int (nI b1)]) (rest := []) (st2 := [.int (if ¬ (nI b1) < 0 ∧ ¬ 4 ≤ (nI b1) then 0 else 1)]) (c_noBoard (nI b1)) rfl lX10_61 rfl ⟨rfl, by decide, by decide, by decide, rfl, rfl⟩ ?_
          rw [if_pos c0]
          refine tf_go hx ftX10_exchange 1 [false] 7 [some (.ref 4), some (.int (nI b1)), some (.int (nI u1)), some (.int (nI w1))] [] S rfl ⟨by decide, by decide, rfl⟩ ⟨trivial, (by decide)⟩ ?_
          refine tf_go hx ftX10_exchange 1 [] 8 [some (.ref 4), some (.int (nI b1)), some (.int (nI u1)), some (.int (nI w1))] [.int (nI u1)] S rfl ⟨by decide, by decide, rfl⟩ trivial ?_
          refine tf_cS hx ftX10_exchange (nx := 11) (As := [.int (nI u1)]) (rest := []) (st2 := [.int (if ¬ (nI u1) < 0 ∧ ¬ 30 ≤ (nI u1) then 0 else 1)]) (c_noKey (nI u1)) rfl lX10_110 rfl ⟨rfl, by decide, by decide, by decide, rfl, rfl⟩ ?_
          rw [if_pos c1]
          refine tf_go hx ftX10_exchange 1 [false] 14 [some (.ref 4), some (.int (nI b1)), some (.int (nI u1)), some (.int (nI w1))] [] S rfl ⟨by decide, by decide, rfl⟩ ⟨trivial, (by decide)⟩ ?_
          refine tf_go hx ftX10_exchange 1 [] 15 [some (.ref 4), some (.int (nI b1)), some (.int (nI u1)), some (.int (nI w1))] [.int (nI w1)] S rfl ⟨by decide, by decide, rfl⟩ trivial ?_
          refine tf_cS hx ftX10_exchange (nx := 18) (As := [.int (nI w1)]) (rest := []) (st2 := [.int (if ¬ (nI w1) < 0 ∧ ¬ 30 ≤ (nI w1) then 0 else 1)]) (c_noKey (nI w1)) rfl lX10_110 rfl ⟨rfl, by decide, by decide, by decide, rfl, rfl⟩ ?_
          rw [if_pos c2]
          refine tf_go hx ftX10_exchange 1 [false] 21 [some (.ref 4), some (.int (nI b1)), some (.int (nI u1)), some (.int (nI w1))] [] S rfl ⟨by decide, by decide, rfl⟩ ⟨trivial, (by decide)⟩ ?_
          refine tf_go hx ftX10_exchange 2 [] 23 [some (.ref 4), some (.int (nI b1)), some (.int (nI u1)), some (.int (nI w1))] [.int (nI w1), .int (nI u1)] S rfl ⟨by decide, by decide, rfl⟩ trivial ?_
          refine tf_go hx ftX10_exchange 1 [true] 32 [some (.ref 4), some (.int (nI b1)), some (.int (nI u1)), some (.int (nI w1))] [] S rfl ⟨by decide, by decide, rfl⟩ ⟨trivial, c3⟩ ?_
          have ar : tf_rf (tf_GG N) 6 (Int32.toNatClampNeg (nI b1)) = 7 + 3 * b1 := by rw [tf_cl_nI (by omega)]; exact (bdn b1_lt).2.2.2
          have arn : tf_rf (tf_GG N) 6 (Int32.toNatClampNeg (nI b1)) ≠ 0 := by rw [ar]; omega
          refine tf_go hx ftX10_exchange 5 [] 41 [some (.ref 4), some (.int (nI b1)), some (.int (nI u1)), some (.int (nI w1))] [.ref (tf_rf (tf_GG N) 6 (Int32.toNatClampNeg (nI b1)))] S rfl ⟨by decide, by decide, rfl⟩ ⟨⟨⟨trivial, ⟨by first | assumption | rfl | decide | omega | exact Nat.succ_ne_zero _, by first | assumption | rfl | decide | omega | exact Nat.succ_ne_zero _⟩⟩, ⟨by first | assumption | rfl | decide | omega | exact Nat.succ_ne_zero _, by first | assumption | rfl | decide | omega | exact Nat.succ_ne_zero _⟩⟩, ⟨by first | assumption | exact Or.inl rfl | exact Or.inr (Or.inl rfl) | exact Or.inr (Or.inr rfl) | omega, by exact tf_in (n := b1) (N := 4) rfl (by first | assumption | rfl) (by omega) (by decide), by first | assumption | rfl | decide | omega | exact Nat.succ_ne_zero _⟩⟩ ?_
          rw [ar]
          clear ar arn
          have tb : tf_tg (tf_GG N) (7 + 3 * b1) = 0 := (bdn b1_lt).1.1
          refine tf_go hx ftX10_exchange 2 [] 43 [some (.ref 4), some (.int (nI b1)), some (.int (nI u1)), some (.int (nI w1))] [.int (nI w1), .int (nI u1), .ref (7 + 3 * b1)] S rfl ⟨by decide, by decide, rfl⟩ trivial ?_
          refine tf_cV hx ftX10_exchange (nx := 46) (As := [.int (nI u1), .int (nI w1)]) (rest := []) (st2 := []) (n_swap hS hg b1_lt u1_lt w1_lt) rfl lX10_168 (by first | assumption | rfl | decide) rfl ⟨rfl, by decide, by decide, by decide, rfl, rfl⟩ ?_
          refine tf_go hx ftX10_exchange 1 [] 47 [some (.ref 4), some (.int (nI b1)), some (.int (nI u1)), some (.int (nI w1))] [.int 1] (tf_bp S (8 + 3 * b1) (9 + 3 * b1) (tf_pe (fun k => A.1 (30 * b1 + k)) u1 w1)) rfl ⟨by decide, by decide, rfl⟩ trivial ?_
          exact tf_ret ftX10_exchange hR rfl ⟨by decide, by decide⟩ rfl rfl rfl
        · rw [if_neg (fun h => c3 h.2.2.2)]
          refine ⟨tf_set S 124 1 (S 124 1 + 1), tf_Fn_of (own := RX10) false ⟨by decide, rfl, by decide⟩ (Nat.le_of_ble_eq_true rfl) trivial (fun x hx hR => ?_), cs_ref hA hC 1, fc_set (by omega)⟩
          show tf_K x 0 0 (tf_GG N) S 0 [some (.ref 4), some (.int b), some (.int u), some (.int w)] []
          refine tf_go hx ftX10_exchange 1 [] 1 [some (.ref 4), some (.int b), some (.int u), some (.int w)] [.int b] S rfl ⟨by decide, by decide, rfl⟩ trivial ?_
          refine tf_cS hx ftX10_exchange (nx := 4) (As := [.int b]) (rest := []) (st2 := [.int (if ¬ b < 0 ∧ ¬ 4 ≤ b then 0 else 1)]) (c_noBoard b) rfl lX10_61 rfl ⟨rfl, by decide, by decide, by decide, rfl, rfl⟩ ?_
          rw [if_pos c0]
          refine tf_go hx ftX10_exchange 1 [false] 7 [some (.ref 4), some (.int b), some (.int u), some (.int w)] [] S rfl ⟨by decide, by decide, rfl⟩ ⟨trivial, (by decide)⟩ ?_
          refine tf_go hx ftX10_exchange 1 [] 8 [some (.ref 4), some (.int b), some (.int u), some (.int w)] [.int u] S rfl ⟨by decide, by decide, rfl⟩ trivial ?_
          refine tf_cS hx ftX10_exchange (nx := 11) (As := [.int u]) (rest := []) (st2 := [.int (if ¬ u < 0 ∧ ¬ 30 ≤ u then 0 else 1)]) (c_noKey u) rfl lX10_110 rfl ⟨rfl, by decide, by decide, by decide, rfl, rfl⟩ ?_
          rw [if_pos c1]
          refine tf_go hx ftX10_exchange 1 [false] 14 [some (.ref 4), some (.int b), some (.int u), some (.int w)] [] S rfl ⟨by decide, by decide, rfl⟩ ⟨trivial, (by decide)⟩ ?_
          refine tf_go hx ftX10_exchange 1 [] 15 [some (.ref 4), some (.int b), some (.int u), some (.int w)] [.int w] S rfl ⟨by decide, by decide, rfl⟩ trivial ?_
          refine tf_cS hx ftX10_exchange (nx := 18) (As := [.int w]) (rest := []) (st2 := [.int (if ¬ w < 0 ∧ ¬ 30 ≤ w then 0 else 1)]) (c_noKey w) rfl lX10_110 rfl ⟨rfl, by decide, by decide, by decide, rfl, rfl⟩ ?_
          rw [if_pos c2]
          refine tf_go hx ftX10_exchange 1 [false] 21 [some (.ref 4), some (.int b), some (.int u), some (.int w)] [] S rfl ⟨by decide, by decide, rfl⟩ ⟨trivial, (by decide)⟩ ?_
          refine tf_go hx ftX10_exchange 2 [] 23 [some (.ref 4), some (.int b), some (.int u), some (.int w)] [.int w, .int u] S rfl ⟨by decide, by decide, rfl⟩ trivial ?_
          refine tf_go hx ftX10_exchange 1 [false] 26 [some (.ref 4), some (.int b), some (.int u), some (.int w)] [] S rfl ⟨by decide, by decide, rfl⟩ ⟨trivial, c3⟩ ?_
          refine tf_go hx ftX10_exchange 2 [] 28 [some (.ref 4), some (.int b), some (.int u), some (.int w)] [.int (-1), .ref 4] S rfl ⟨by decide, by decide, rfl⟩ trivial ?_
          refine tf_cV hx ftX10_exchange (nx := 31) (As := [.int (-1)]) (rest := []) (st2 := [.int (-1)]) (n_ref1) rfl lX10_50 (by first | assumption | rfl | decide) rfl ⟨rfl, by decide, by decide, by decide, rfl, rfl⟩ ?_
          exact tf_ret ftX10_exchange hR rfl ⟨by decide, by decide⟩ rfl rfl rfl
      · rw [if_neg (fun h => c2 h.2.2.1)]
        refine ⟨tf_set S 124 1 (S 124 1 + 1), tf_Fn_of (own := RX10) false ⟨by decide, rfl, by decide⟩ (Nat.le_of_ble_eq_true rfl) trivial (fun x hx hR => ?_), cs_ref hA hC 1, fc_set (by omega)⟩
        show tf_K x 0 0 (tf_GG N) S 0 [some (.ref 4), some (.int b), some (.int u), some (.int w)] []
        refine tf_go hx ftX10_exchange 1 [] 1 [some (.ref 4), some (.int b), some (.int u), some (.int w)] [.int b] S rfl ⟨by decide, by decide, rfl⟩ trivial ?_
        refine tf_cS hx ftX10_exchange (nx := 4) (As := [.int b]) (rest := []) (st2 := [.int (if ¬ b < 0 ∧ ¬ 4 ≤ b then 0 else 1)]) (c_noBoard b) rfl lX10_61 rfl ⟨rfl, by decide, by decide, by decide, rfl, rfl⟩ ?_
        rw [if_pos c0]
        refine tf_go hx ftX10_exchange 1 [false] 7 [some (.ref 4), some (.int b), some (.int u), some (.int w)] [] S rfl ⟨by decide, by decide, rfl⟩ ⟨trivial, (by decide)⟩ ?_
        refine tf_go hx ftX10_exchange 1 [] 8 [some (.ref 4), some (.int b), some (.int u), some (.int w)] [.int u] S rfl ⟨by decide, by decide, rfl⟩ trivial ?_
        refine tf_cS hx ftX10_exchange (nx := 11) (As := [.int u]) (rest := []) (st2 := [.int (if ¬ u < 0 ∧ ¬ 30 ≤ u then 0 else 1)]) (c_noKey u) rfl lX10_110 rfl ⟨rfl, by decide, by decide, by decide, rfl, rfl⟩ ?_
        rw [if_pos c1]
        refine tf_go hx ftX10_exchange 1 [false] 14 [some (.ref 4), some (.int b), some (.int u), some (.int w)] [] S rfl ⟨by decide, by decide, rfl⟩ ⟨trivial, (by decide)⟩ ?_
        refine tf_go hx ftX10_exchange 1 [] 15 [some (.ref 4), some (.int b), some (.int u), some (.int w)] [.int w] S rfl ⟨by decide, by decide, rfl⟩ trivial ?_
        refine tf_cS hx ftX10_exchange (nx := 18) (As := [.int w]) (rest := []) (st2 := [.int (if ¬ w < 0 ∧ ¬ 30 ≤ w then 0 else 1)]) (c_noKey w) rfl lX10_110 rfl ⟨rfl, by decide, by decide, by decide, rfl, rfl⟩ ?_
        rw [if_neg c2]
        refine tf_go hx ftX10_exchange 1 [true] 26 [some (.ref 4), some (.int b), some (.int u), some (.int w)] [] S rfl ⟨by decide, by decide, rfl⟩ ⟨trivial, (by decide)⟩ ?_
        refine tf_go hx ftX10_exchange 2 [] 28 [some (.ref 4), some (.int b), some (.int u), some (.int w)] [.int (-1), .ref 4] S rfl ⟨by decide, by decide, rfl⟩ trivial ?_
        refine tf_cV hx ftX10_exchange (nx := 31) (As := [.int (-1)]) (rest := []) (st2 := [.int (-1)]) (n_ref1) rfl lX10_50 (by first | assumption | rfl | decide) rfl ⟨rfl, by decide, by decide, by decide, rfl, rfl⟩ ?_
        exact tf_ret ftX10_exchange hR rfl ⟨by decide, by decide⟩ rfl rfl rfl
    · rw [if_neg (fun h => c1 h.2.1)]
      refine ⟨tf_set S 124 1 (S 124 1 + 1), tf_Fn_of (own := RX10) false ⟨by decide, rfl, by decide⟩ (Nat.le_of_ble_eq_true rfl) trivial (fun x hx hR => ?_), cs_ref hA hC 1, fc_set (by omega)⟩
      show tf_K x 0 0 (tf_GG N) S 0 [some (.ref 4), some (.int b), some (.int u), some (.int w)] []
      refine tf_go hx ftX10_exchange 1 [] 1 [some (.ref 4), some (.int b), some (.int u), some (.int w)] [.int b] S rfl ⟨by decide, by decide, rfl⟩ trivial ?_
      refine tf_cS hx ftX10_exchange (nx := 4) (As := [.int b]) (rest := []) (st2 := [.int (if ¬ b < 0 ∧ ¬ 4 ≤ b then 0 else 1)]) (c_noBoard b) rfl lX10_61 rfl ⟨rfl, by decide, by decide, by decide, rfl, rfl⟩ ?_
      rw [if_pos c0]
      refine tf_go hx ftX10_exchange 1 [false] 7 [some (.ref 4), some (.int b), some (.int u), some (.int w)] [] S rfl ⟨by decide, by decide, rfl⟩ ⟨trivial, (by decide)⟩ ?_
      refine tf_go hx ftX10_exchange 1 [] 8 [some (.ref 4), some (.int b), some (.int u), some (.int w)] [.int u] S rfl ⟨by decide, by decide, rfl⟩ trivial ?_
      refine tf_cS hx ftX10_exchange (nx := 11) (As := [.int u]) (rest := []) (st2 := [.int (if ¬ u < 0 ∧ ¬ 30 ≤ u then 0 else 1)]) (c_noKey u) rfl lX10_110 rfl ⟨rfl, by decide, by decide, by decide, rfl, rfl⟩ ?_
      rw [if_neg c1]
      refine tf_go hx ftX10_exchange 1 [true] 26 [some (.ref 4), some (.int b), some (.int u), some (.int w)] [] S rfl ⟨by decide, by decide, rfl⟩ ⟨trivial, (by decide)⟩ ?_
      refine tf_go hx ftX10_exchange 2 [] 28 [some (.ref 4), some (.int b), some (.int u), some (.int w)] [.int (-1), .ref 4] S rfl ⟨by decide, by decide, rfl⟩ trivial ?_
      refine tf_cV hx ftX10_exchange (nx := 31) (As := [.int (-1)]) (rest := []) (st2 := [.int (-1)]) (n_ref1) rfl lX10_50 (by first | assumption | rfl | decide) rfl ⟨rfl, by decide, by decide, by decide, rfl, rfl⟩ ?_
      exact tf_ret ftX10_exchange hR rfl ⟨by decide, by decide⟩ rfl rfl rfl
  · rw [if_neg (fun h => c0 h.1)]
    refine ⟨tf_set S 124 1 (S 124 1 + 1), tf_Fn_of (own := RX10) false ⟨by decide, rfl, by decide⟩ (Nat.le_of_ble_eq_true rfl) trivial (fun x hx hR => ?_), cs_ref hA hC 1, fc_set (by omega)⟩
    show tf_K x 0 0 (tf_GG N) S 0 [some (.ref 4), some (.int b), some (.int u), some (.int w)] []
    refine tf_go hx ftX10_exchange 1 [] 1 [some (.ref 4), some (.int b), some (.int u), some (.int w)] [.int b] S rfl ⟨by decide, by decide, rfl⟩ trivial ?_
    refine tf_cS hx ftX10_exchange (nx := 4) (As := [.int b]) (rest := []) (st2 := [.int (if ¬ b < 0 ∧ ¬ 4 ≤ b then 0 else 1)]) (c_noBoard b) rfl lX10_61 rfl ⟨rfl, by decide, by decide, by decide, rfl, rfl⟩ ?_
    rw [if_neg c0]
    refine tf_go hx ftX10_exchange 1 [true] 26 [some (.ref 4), some (.int b), some (.int u), some (.int w)] [] S rfl ⟨by decide, by decide, rfl⟩ ⟨trivial, (by decide)⟩ ?_
    refine tf_go hx ftX10_exchange 2 [] 28 [some (.ref 4), some (.int b), some (.int u), some (.int w)] [.int (-1), .ref 4] S rfl ⟨by decide, by decide, rfl⟩ trivial ?_
    refine tf_cV hx ftX10_exchange (nx := 31) (As := [.int (-1)]) (rest := []) (st2 := [.int (-1)]) (n_ref1) rfl lX10_50 (by first | assumption | rfl | decide) rfl ⟨rfl, by decide, by decide, by decide, rfl, rfl⟩ ?_
    exact tf_ret ftX10_exchange hR rfl ⟨by decide, by decide⟩ rfl rfl rfl

set_option maxHeartbeats 2000000 in
theorem c_put {N : Nat} {S : tf_Sg} {A : tf_A} (v : Int32) (hA : tf_okA A) (hC : tf_cs S A)  : tf_cpq mX10_put 2 N S [.ref 4, .int v] (s_put A v) := by
  obtain ⟨hg, hb, hA3, hA4, hA5, hA6⟩ := id hA
  obtain ⟨h1j, hS, hK5, ⟨hT1, hT2⟩, hRf, hIm⟩ := id hC
  obtain ⟨⟨g1, g2, g3, g4⟩, g5, g6, g7, g8, g9, g10, g11⟩ := id hg
  unfold s_put
  by_cases e1 : ¬ 0 ≤ v
  · rw [if_pos e1]
    refine ⟨tf_set S 124 4 (S 124 4 + 1), tf_Fn_of (own := RX10) false ⟨by decide, rfl, by decide⟩ (Nat.le_of_ble_eq_true rfl) trivial (fun x hx hR => ?_), cs_ref hA hC 4, fc_set (by omega)⟩
    show tf_K x 0 0 (tf_GG N) S 0 [some (.ref 4), some (.int v)] []
    refine tf_go hx ftX10_put 1 [] 1 [some (.ref 4), some (.int v)] [.int v] S rfl ⟨by decide, by decide, rfl⟩ trivial ?_
    refine tf_go hx ftX10_put 1 [false] 4 [some (.ref 4), some (.int v)] [] S rfl ⟨by decide, by decide, rfl⟩ ⟨trivial, e1⟩ ?_
    refine tf_go hx ftX10_put 2 [] 7 [some (.ref 4), some (.int v)] [.int (-4), .ref 4] S rfl ⟨by decide, by decide, rfl⟩ trivial ?_
    refine tf_cV hx ftX10_put (nx := 10) (As := [.int (-4)]) (rest := []) (st2 := [.int (-4)]) (n_ref4) rfl lX10_50 (by first | assumption | rfl | decide) rfl ⟨rfl, by decide, by decide, by decide, rfl, rfl⟩ ?_
    exact tf_ret ftX10_put hR rfl ⟨by decide, by decide⟩ rfl rfl rfl
  · by_cases e2 : ¬ v ≤ 9999
    · rw [if_neg e1, if_pos (Or.inl e2)]
      refine ⟨tf_set S 124 6 (S 124 6 + 1), tf_Fn_of (own := RX10) false ⟨by decide, rfl, by decide⟩ (Nat.le_of_ble_eq_true rfl) trivial (fun x hx hR => ?_), cs_ref hA hC 6, fc_set (by omega)⟩
      show tf_K x 0 0 (tf_GG N) S 0 [some (.ref 4), some (.int v)] []
      refine tf_go hx ftX10_put 1 [] 1 [some (.ref 4), some (.int v)] [.int v] S rfl ⟨by decide, by decide, rfl⟩ trivial ?_
      refine tf_go hx ftX10_put 1 [true] 11 [some (.ref 4), some (.int v)] [] S rfl ⟨by decide, by decide, rfl⟩ ⟨trivial, (Classical.not_not.mp e1)⟩ ?_
      refine tf_go hx ftX10_put 2 [] 15 [some (.ref 4), some (.int v)] [.int 9999, .int v] S rfl ⟨by decide, by decide, rfl⟩ trivial ?_
      refine tf_go hx ftX10_put 1 [true] 33 [some (.ref 4), some (.int v)] [] S rfl ⟨by decide, by decide, rfl⟩ ⟨trivial, (Int32.not_le.mp e2)⟩ ?_
      refine tf_go hx ftX10_put 2 [] 36 [some (.ref 4), some (.int v)] [.int (-6), .ref 4] S rfl ⟨by decide, by decide, rfl⟩ trivial ?_
      refine tf_cV hx ftX10_put (nx := 39) (As := [.int (-6)]) (rest := []) (st2 := [.int (-6)]) (n_ref6) rfl lX10_50 (by first | assumption | rfl | decide) rfl ⟨rfl, by decide, by decide, by decide, rfl, rfl⟩ ?_
      exact tf_ret ftX10_put hR rfl ⟨by decide, by decide⟩ rfl rfl rfl
    · by_cases e3 : A.1 367 = 40
      · rw [if_neg e1, if_pos (Or.inr e3)]
        refine ⟨tf_set S 124 6 (S 124 6 + 1), tf_Fn_of (own := RX10) false ⟨by decide, rfl, by decide⟩ (Nat.le_of_ble_eq_true rfl) trivial (fun x hx hR => ?_), cs_ref hA hC 6, fc_set (by omega)⟩
        show tf_K x 0 0 (tf_GG N) S 0 [some (.ref 4), some (.int v)] []
        refine tf_go hx ftX10_put 1 [] 1 [some (.ref 4), some (.int v)] [.int v] S rfl ⟨by decide, by decide, rfl⟩ trivial ?_
        refine tf_go hx ftX10_put 1 [true] 11 [some (.ref 4), some (.int v)] [] S rfl ⟨by decide, by decide, rfl⟩ ⟨trivial, (Classical.not_not.mp e1)⟩ ?_
        refine tf_go hx ftX10_put 2 [] 15 [some (.ref 4), some (.int v)] [.int 9999, .int v] S rfl ⟨by decide, by decide, rfl⟩ trivial ?_
        refine tf_go hx ftX10_put 1 [false] 18 [some (.ref 4), some (.int v)] [] S rfl ⟨by decide, by decide, rfl⟩ ⟨trivial, (Int32.not_lt.mpr (Classical.not_not.mp e2))⟩ ?_
        refine tf_go hx ftX10_put 3 [] 25 [some (.ref 4), some (.int v)] [.ref 55] S rfl ⟨by decide, by decide, rfl⟩ ⟨⟨trivial, ⟨by first | assumption | rfl | decide | omega | exact Nat.succ_ne_zero _, by first | assumption | rfl | decide | omega | exact Nat.succ_ne_zero _⟩⟩, ⟨by first | assumption | rfl | decide | omega | exact Nat.succ_ne_zero _, by first | assumption | rfl | decide | omega | exact Nat.succ_ne_zero _⟩⟩ ?_
        refine tf_cV hx ftX10_put (nx := 28) (As := []) (rest := []) (st2 := [.int (nI (A.1 367))]) (v_size (nw_R hS hg)) rfl lX10_54 (by first | assumption | rfl | decide) rfl ⟨rfl, by decide, by decide, by decide, rfl, rfl⟩ ?_
        refine tf_go hx ftX10_put 1 [] 30 [some (.ref 4), some (.int v)] [.int 40, .int (nI (A.1 367))] S rfl ⟨by decide, by decide, rfl⟩ trivial ?_
        refine tf_go hx ftX10_put 1 [false] 33 [some (.ref 4), some (.int v)] [] S rfl ⟨by decide, by decide, rfl⟩ ⟨trivial, (tf_ltF (a := (A.1 367)) (b := 40) rfl (rfl : (40 : Int32) = nI 40) (by have := hb 367; omega) (by have := hb 367; omega) (by have := hb 367; omega))⟩ ?_
        refine tf_go hx ftX10_put 2 [] 36 [some (.ref 4), some (.int v)] [.int (-6), .ref 4] S rfl ⟨by decide, by decide, rfl⟩ trivial ?_
        refine tf_cV hx ftX10_put (nx := 39) (As := [.int (-6)]) (rest := []) (st2 := [.int (-6)]) (n_ref6) rfl lX10_50 (by first | assumption | rfl | decide) rfl ⟨rfl, by decide, by decide, by decide, rfl, rfl⟩ ?_
        exact tf_ret ftX10_put hR rfl ⟨by decide, by decide⟩ rfl rfl rfl
      · rw [if_neg e1, if_neg (by rintro (h | h); exact e2 h; exact e3 h)]
        obtain ⟨v1, v1_le, v1_eq⟩ := nI_of2 (M := 9999) (n := 9999) (x := v) (by decide) (fun h => e1 (fun h2 => absurd h (Int32.not_lt.mpr h2))) (Classical.not_not.mp e2)
        have v1_cl : v.toNatClampNeg = v1 := by rw [v1_eq]; exact tf_cl_nI (by omega)
        try rw [v1_cl]
        subst v1_eq
        have h40 : A.1 367 < 40 := by omega
        have hnx : tf_nx S (tf_ap S 55 56 (A.1 367) (nI v1)) := fun a ha => by unfold tf_ap; rw [tf_set_n (by omega), tf_set_n (by omega)]
        refine ⟨tf_ap S 55 56 (A.1 367) (nI v1), tf_Fn_of (own := RX10) false ⟨by decide, rfl, by decide⟩ (Nat.le_of_ble_eq_true rfl) trivial (fun x hx hR => ?_), cs_f hA hC hnx (st_put hS hg h40), fc_nx hnx⟩
        show tf_K x 0 0 (tf_GG N) S 0 [some (.ref 4), some (.int (nI v1))] []
        refine tf_go hx ftX10_put 1 [] 1 [some (.ref 4), some (.int (nI v1))] [.int (nI v1)] S rfl ⟨by decide, by decide, rfl⟩ trivial ?_
        refine tf_go hx ftX10_put 1 [true] 11 [some (.ref 4), some (.int (nI v1))] [] S rfl ⟨by decide, by decide, rfl⟩ ⟨trivial, (Classical.not_not.mp e1)⟩ ?_
        refine tf_go hx ftX10_put 2 [] 15 [some (.ref 4), some (.int (nI v1))] [.int 9999, .int (nI v1)] S rfl ⟨by decide, by decide, rfl⟩ trivial ?_
        refine tf_go hx ftX10_put 1 [false] 18 [some (.ref 4), some (.int (nI v1))] [] S rfl ⟨by decide, by decide, rfl⟩ ⟨trivial, (tf_ltF (a := 9999) (b := v1) (rfl : (9999 : Int32) = nI 9999) rfl (by omega) (by omega) (by omega))⟩ ?_
        refine tf_go hx ftX10_put 3 [] 25 [some (.ref 4), some (.int (nI v1))] [.ref 55] S rfl ⟨by decide, by decide, rfl⟩ ⟨⟨trivial, ⟨by first | assumption | rfl | decide | omega | exact Nat.succ_ne_zero _, by first | assumption | rfl | decide | omega | exact Nat.succ_ne_zero _⟩⟩, ⟨by first | assumption | rfl | decide | omega | exact Nat.succ_ne_zero _, by first | assumption | rfl | decide | omega | exact Nat.succ_ne_zero _⟩⟩ ?_
        refine tf_cV hx ftX10_put (nx := 28) (As := []) (rest := []) (st2 := [.int (nI (A.1 367))]) (v_size (nw_R hS hg)) rfl lX10_54 (by first | assumption | rfl | decide) rfl ⟨rfl, by decide, by decide, by decide, rfl, rfl⟩ ?_
        refine tf_go hx ftX10_put 1 [] 30 [some (.ref 4), some (.int (nI v1))] [.int 40, .int (nI (A.1 367))] S rfl ⟨by decide, by decide, rfl⟩ trivial ?_
        refine tf_go hx ftX10_put 1 [true] 40 [some (.ref 4), some (.int (nI v1))] [] S rfl ⟨by decide, by decide, rfl⟩ ⟨trivial, (tf_ltT (a := (A.1 367)) (b := 40) rfl (rfl : (40 : Int32) = nI 40) (by have := hb 367; omega) (by have := hb 367; omega) (by have := hb 367; omega))⟩ ?_
        refine tf_go hx ftX10_put 4 [] 48 [some (.ref 4), some (.int (nI v1))] [.int (nI v1), .ref 55] S rfl ⟨by decide, by decide, rfl⟩ ⟨⟨trivial, ⟨by first | assumption | rfl | decide | omega | exact Nat.succ_ne_zero _, by first | assumption | rfl | decide | omega | exact Nat.succ_ne_zero _⟩⟩, ⟨by first | assumption | rfl | decide | omega | exact Nat.succ_ne_zero _, by first | assumption | rfl | decide | omega | exact Nat.succ_ne_zero _⟩⟩ ?_
        refine tf_cV hx ftX10_put (nx := 51) (As := [.int (nI v1)]) (rest := []) (st2 := []) ((show tf_Fn mX5_add 1 0 0 (tf_GG N) S [.ref 55, .int (nI v1)] (tf_GG N) (tf_ap S 55 56 (A.1 367) (nI v1)) none from v_add (nw_R (N := N) hS hg) (nI v1) h40)) rfl lX10_58 (by first | assumption | rfl | decide) rfl ⟨rfl, by decide, by decide, by decide, rfl, rfl⟩ ?_
        refine tf_go hx ftX10_put 3 [] 58 [some (.ref 4), some (.int (nI v1))] [.ref 55] (tf_ap S 55 56 (A.1 367) (nI v1)) rfl ⟨by decide, by decide, rfl⟩ ⟨⟨trivial, ⟨by first | assumption | rfl | decide | omega | exact Nat.succ_ne_zero _, by first | assumption | rfl | decide | omega | exact Nat.succ_ne_zero _⟩⟩, ⟨by first | assumption | rfl | decide | omega | exact Nat.succ_ne_zero _, by first | assumption | rfl | decide | omega | exact Nat.succ_ne_zero _⟩⟩ ?_
        refine tf_cV hx ftX10_put (nx := 61) (As := []) (rest := []) (st2 := [.int (nI (A.1 367 + 1))]) ((by have h := v_size (tf_ap_V (v := nI v1) (nw_R (N := N) hS hg) h40); exact h)) rfl lX10_54 (by first | assumption | rfl | decide) rfl ⟨rfl, by decide, by decide, by decide, rfl, rfl⟩ ?_
        exact tf_ret ftX10_put hR rfl ⟨by decide, by decide⟩ rfl rfl rfl

set_option maxHeartbeats 2000000 in
theorem c_unput {N : Nat} {S : tf_Sg} {A : tf_A}  (hA : tf_okA A) (hC : tf_cs S A)  : tf_cpq mX10_unput 2 N S [.ref 4] (s_unput A) := by
  obtain ⟨hg, hb, hA3, hA4, hA5, hA6⟩ := id hA
  obtain ⟨h1j, hS, hK5, ⟨hT1, hT2⟩, hRf, hIm⟩ := id hC
  obtain ⟨⟨g1, g2, g3, g4⟩, g5, g6, g7, g8, g9, g10, g11⟩ := id hg
  unfold s_unput
  refine ⟨tf_set S 55 1 0, tf_Fn_of (own := RX10) false ⟨by decide, rfl, by decide⟩ (Nat.le_of_ble_eq_true rfl) trivial (fun x hx hR => ?_), cs_f hA hC (nx_set (by omega)) (st_unput hS hg), fc_set (by omega)⟩
  show tf_K x 0 0 (tf_GG N) S 0 [some (.ref 4), none] []
  refine tf_go hx ftX10_unput 3 [] 7 [some (.ref 4), none] [.ref 55] S rfl ⟨by decide, by decide, rfl⟩ ⟨⟨trivial, ⟨by first | assumption | rfl | decide | omega | exact Nat.succ_ne_zero _, by first | assumption | rfl | decide | omega | exact Nat.succ_ne_zero _⟩⟩, ⟨by first | assumption | rfl | decide | omega | exact Nat.succ_ne_zero _, by first | assumption | rfl | decide | omega | exact Nat.succ_ne_zero _⟩⟩ ?_
  refine tf_cV hx ftX10_unput (nx := 10) (As := []) (rest := []) (st2 := [.int (nI (A.1 367))]) (v_size (nw_R hS hg)) rfl lX10_54 (by first | assumption | rfl | decide) rfl ⟨rfl, by decide, by decide, by decide, rfl, rfl⟩ ?_
  refine tf_go hx ftX10_unput 1 [] 11 [some (.ref 4), some (.int (nI (A.1 367)))] [] S rfl ⟨by decide, by decide, rfl⟩ trivial ?_
  refine tf_go hx ftX10_unput 3 [] 18 [some (.ref 4), some (.int (nI (A.1 367)))] [.ref 55] S rfl ⟨by decide, by decide, rfl⟩ ⟨⟨trivial, ⟨by first | assumption | rfl | decide | omega | exact Nat.succ_ne_zero _, by first | assumption | rfl | decide | omega | exact Nat.succ_ne_zero _⟩⟩, ⟨by first | assumption | rfl | decide | omega | exact Nat.succ_ne_zero _, by first | assumption | rfl | decide | omega | exact Nat.succ_ne_zero _⟩⟩ ?_
  refine tf_cV hx ftX10_unput (nx := 21) (As := []) (rest := []) (st2 := []) (c_clear rfl) rfl lX10_80 (by first | assumption | rfl | decide) rfl ⟨rfl, by decide, by decide, by decide, rfl, rfl⟩ ?_
  refine tf_go hx ftX10_unput 1 [] 22 [some (.ref 4), some (.int (nI (A.1 367)))] [.int (nI (A.1 367))] (tf_set S 55 1 0) rfl ⟨by decide, by decide, rfl⟩ trivial ?_
  exact tf_ret ftX10_unput hR rfl ⟨by decide, by decide⟩ rfl rfl rfl

set_option maxHeartbeats 2000000 in
theorem c_nearest {N : Nat} {S : tf_Sg} {A : tf_A} (b : Int32) (hA : tf_okA A) (hC : tf_cs S A)  : tf_cpq mX10_nearest 8 N S [.ref 4, .int b] (s_nearest A b) := by
  obtain ⟨hg, hb, hA3, hA4, hA5, hA6⟩ := id hA
  obtain ⟨h1j, hS, hK5, ⟨hT1, hT2⟩, hRf, hIm⟩ := id hC
  obtain ⟨⟨g1, g2, g3, g4⟩, g5, g6, g7, g8, g9, g10, g11⟩ := id hg
  unfold s_nearest
  by_cases c0 : ¬ b < 0 ∧ ¬ 4 ≤ b
  · rw [if_pos c0]
    obtain ⟨b1, b1_lt, b1_eq, b1_cl⟩ := tf_ok_nI (N := 4) (show tf_ok b _ from c0) rfl (by decide)
    try rw [b1_cl]
    subst b1_eq
    by_cases e1 : A.1 367 = A.1 364
    · rw [if_pos e1]
      have hS2 : tf_st (tf_lx S A.1 b1) 5 A.1 := nw_st hS hg tf_sx_lx
      have hk2 : tf_k1 (tf_GG N) (tf_lx S A.1 b1) := tf_k1_of (nw_1 h1j tf_sx_lx)
      by_cases e2 : tf_nu A.1 b1 (tf_nb A.1 b1 3 1 0) 4 0 = true
      · rw [if_pos e2]
        refine ⟨tf_lx S A.1 b1, tf_Fn_of (own := RX10) false ⟨by decide, rfl, by decide⟩ (Nat.le_of_ble_eq_true rfl) trivial (fun x hx hR => ?_), cs_sx hA hC tf_sx_lx, fc_sx tf_sx_lx⟩
        show tf_K x 0 0 (tf_GG N) S 0 [some (.ref 4), some (.int (nI b1))] []
        refine tf_go hx ftX10_nearest 1 [] 1 [some (.ref 4), some (.int (nI b1))] [.int (nI b1)] S rfl ⟨by decide, by decide, rfl⟩ trivial ?_
        refine tf_cS hx ftX10_nearest (nx := 4) (As := [.int (nI b1)]) (rest := []) (st2 := [.int (if ¬ (nI b1) < 0 ∧ ¬ 4 ≤ (nI b1) then 0 else 1)]) (c_noBoard (nI b1)) rfl lX10_61 rfl ⟨rfl, by decide, by decide, by decide, rfl, rfl⟩ ?_
        rw [if_pos c0]
        refine tf_go hx ftX10_nearest 1 [true] 13 [some (.ref 4), some (.int (nI b1))] [] S rfl ⟨by decide, by decide, rfl⟩ ⟨trivial, (by decide)⟩ ?_
        refine tf_go hx ftX10_nearest 3 [] 20 [some (.ref 4), some (.int (nI b1))] [.ref 55] S rfl ⟨by decide, by decide, rfl⟩ ⟨⟨trivial, ⟨by first | assumption | rfl | decide | omega | exact Nat.succ_ne_zero _, by first | assumption | rfl | decide | omega | exact Nat.succ_ne_zero _⟩⟩, ⟨by first | assumption | rfl | decide | omega | exact Nat.succ_ne_zero _, by first | assumption | rfl | decide | omega | exact Nat.succ_ne_zero _⟩⟩ ?_
        refine tf_cV hx ftX10_nearest (nx := 23) (As := []) (rest := []) (st2 := [.int (nI (A.1 367))]) (v_size (nw_R hS hg)) rfl lX10_54 (by first | assumption | rfl | decide) rfl ⟨rfl, by decide, by decide, by decide, rfl, rfl⟩ ?_
        refine tf_go hx ftX10_nearest 3 [] 30 [some (.ref 4), some (.int (nI b1))] [.ref 28, .int (nI (A.1 367))] S rfl ⟨by decide, by decide, rfl⟩ ⟨⟨trivial, ⟨by first | assumption | rfl | decide | omega | exact Nat.succ_ne_zero _, by first | assumption | rfl | decide | omega | exact Nat.succ_ne_zero _⟩⟩, ⟨by first | assumption | rfl | decide | omega | exact Nat.succ_ne_zero _, by first | assumption | rfl | decide | omega | exact Nat.succ_ne_zero _⟩⟩ ?_
        refine tf_cV hx ftX10_nearest (nx := 33) (As := []) (rest := [.int (nI (A.1 367))]) (st2 := [.int (nI (A.1 364)), .int (nI (A.1 367))]) (v_size (nw_M hS hg)) rfl lX10_54 (by first | assumption | rfl | decide) rfl ⟨rfl, by decide, by decide, by decide, rfl, rfl⟩ ?_
        refine tf_go hx ftX10_nearest 1 [true] 39 [some (.ref 4), some (.int (nI b1))] [] S rfl ⟨by decide, by decide, rfl⟩ ⟨trivial, (tf_eqT (a := (A.1 367)) (b := (A.1 364)) rfl rfl (by have := hb 367; have := hb 364; omega))⟩ ?_
        have ar : tf_rf (tf_GG N) 6 (Int32.toNatClampNeg (nI b1)) = 7 + 3 * b1 := by rw [tf_cl_nI (by omega)]; exact (bdn b1_lt).2.2.2
        have arn : tf_rf (tf_GG N) 6 (Int32.toNatClampNeg (nI b1)) ≠ 0 := by rw [ar]; omega
        refine tf_go hx ftX10_nearest 10 [] 59 [some (.ref 4), some (.int (nI b1))] [.ref (tf_rf (tf_GG N) 6 (Int32.toNatClampNeg (nI b1))), .ref 28, .ref 120] S rfl ⟨by decide, by decide, rfl⟩ ⟨⟨⟨⟨⟨⟨trivial, ⟨by first | assumption | rfl | decide | omega | exact Nat.succ_ne_zero _, by first | assumption | rfl | decide | omega | exact Nat.succ_ne_zero _⟩⟩, ⟨by first | assumption | rfl | decide | omega | exact Nat.succ_ne_zero _, by first | assumption | rfl | decide | omega | exact Nat.succ_ne_zero _⟩⟩, ⟨by first | assumption | rfl | decide | omega | exact Nat.succ_ne_zero _, by first | assumption | rfl | decide | omega | exact Nat.succ_ne_zero _⟩⟩, ⟨by first | assumption | rfl | decide | omega | exact Nat.succ_ne_zero _, by first | assumption | rfl | decide | omega | exact Nat.succ_ne_zero _⟩⟩, ⟨by first | assumption | rfl | decide | omega | exact Nat.succ_ne_zero _, by first | assumption | rfl | decide | omega | exact Nat.succ_ne_zero _⟩⟩, ⟨by first | assumption | exact Or.inl rfl | exact Or.inr (Or.inl rfl) | exact Or.inr (Or.inr rfl) | omega, by exact tf_in (n := b1) (N := 4) rfl (by first | assumption | rfl) (by omega) (by decide), by first | assumption | rfl | decide | omega | exact Nat.succ_ne_zero _⟩⟩ ?_
        rw [ar]
        clear ar arn
        have tb : tf_tg (tf_GG N) (7 + 3 * b1) = 0 := (bdn b1_lt).1.1
        refine tf_cV hx ftX10_nearest (nx := 62) (As := [.ref 28, .ref (7 + 3 * b1)]) (rest := []) (st2 := []) (n_lay hS hg hb b1_lt) rfl lX10_183 (by first | assumption | rfl | decide) rfl ⟨rfl, by decide, by decide, by decide, rfl, rfl⟩ ?_
        refine tf_go hx ftX10_nearest 1 [] 63 [some (.ref 4), some (.int (nI b1))] [.ref 4] (tf_lx S A.1 b1) rfl ⟨by decide, by decide, rfl⟩ trivial ?_
        refine tf_cV hx ftX10_nearest (nx := 66) (As := []) (rest := []) (st2 := [.int (nI (tf_nb A.1 b1 3 1 0))]) ((by have h := n_near (N := N) hS2 (nw_1 h1j tf_sx_lx) hg hb (nw_K hg); rw [tf_cz_eq, if_pos e2] at h; exact h)) rfl lX10_191 (by first | assumption | rfl | decide) rfl ⟨rfl, by decide, by decide, by decide, rfl, rfl⟩ ?_
        exact tf_ret ftX10_nearest hR rfl ⟨by decide, by decide⟩ rfl rfl rfl
      · rw [if_neg e2]
        refine ⟨tf_lx S A.1 b1, tf_Fn_of (own := RX10) false ⟨by decide, rfl, by decide⟩ (Nat.le_of_ble_eq_true rfl) trivial (fun x hx hR => ?_), cs_sx hA hC tf_sx_lx, fc_sx tf_sx_lx⟩
        show tf_K x 0 0 (tf_GG N) S 0 [some (.ref 4), some (.int (nI b1))] []
        refine tf_go hx ftX10_nearest 1 [] 1 [some (.ref 4), some (.int (nI b1))] [.int (nI b1)] S rfl ⟨by decide, by decide, rfl⟩ trivial ?_
        refine tf_cS hx ftX10_nearest (nx := 4) (As := [.int (nI b1)]) (rest := []) (st2 := [.int (if ¬ (nI b1) < 0 ∧ ¬ 4 ≤ (nI b1) then 0 else 1)]) (c_noBoard (nI b1)) rfl lX10_61 rfl ⟨rfl, by decide, by decide, by decide, rfl, rfl⟩ ?_
        rw [if_pos c0]
        refine tf_go hx ftX10_nearest 1 [true] 13 [some (.ref 4), some (.int (nI b1))] [] S rfl ⟨by decide, by decide, rfl⟩ ⟨trivial, (by decide)⟩ ?_
        refine tf_go hx ftX10_nearest 3 [] 20 [some (.ref 4), some (.int (nI b1))] [.ref 55] S rfl ⟨by decide, by decide, rfl⟩ ⟨⟨trivial, ⟨by first | assumption | rfl | decide | omega | exact Nat.succ_ne_zero _, by first | assumption | rfl | decide | omega | exact Nat.succ_ne_zero _⟩⟩, ⟨by first | assumption | rfl | decide | omega | exact Nat.succ_ne_zero _, by first | assumption | rfl | decide | omega | exact Nat.succ_ne_zero _⟩⟩ ?_
        refine tf_cV hx ftX10_nearest (nx := 23) (As := []) (rest := []) (st2 := [.int (nI (A.1 367))]) (v_size (nw_R hS hg)) rfl lX10_54 (by first | assumption | rfl | decide) rfl ⟨rfl, by decide, by decide, by decide, rfl, rfl⟩ ?_
        refine tf_go hx ftX10_nearest 3 [] 30 [some (.ref 4), some (.int (nI b1))] [.ref 28, .int (nI (A.1 367))] S rfl ⟨by decide, by decide, rfl⟩ ⟨⟨trivial, ⟨by first | assumption | rfl | decide | omega | exact Nat.succ_ne_zero _, by first | assumption | rfl | decide | omega | exact Nat.succ_ne_zero _⟩⟩, ⟨by first | assumption | rfl | decide | omega | exact Nat.succ_ne_zero _, by first | assumption | rfl | decide | omega | exact Nat.succ_ne_zero _⟩⟩ ?_
        refine tf_cV hx ftX10_nearest (nx := 33) (As := []) (rest := [.int (nI (A.1 367))]) (st2 := [.int (nI (A.1 364)), .int (nI (A.1 367))]) (v_size (nw_M hS hg)) rfl lX10_54 (by first | assumption | rfl | decide) rfl ⟨rfl, by decide, by decide, by decide, rfl, rfl⟩ ?_
        refine tf_go hx ftX10_nearest 1 [true] 39 [some (.ref 4), some (.int (nI b1))] [] S rfl ⟨by decide, by decide, rfl⟩ ⟨trivial, (tf_eqT (a := (A.1 367)) (b := (A.1 364)) rfl rfl (by have := hb 367; have := hb 364; omega))⟩ ?_
        have ar : tf_rf (tf_GG N) 6 (Int32.toNatClampNeg (nI b1)) = 7 + 3 * b1 := by rw [tf_cl_nI (by omega)]; exact (bdn b1_lt).2.2.2
        have arn : tf_rf (tf_GG N) 6 (Int32.toNatClampNeg (nI b1)) ≠ 0 := by rw [ar]; omega
        refine tf_go hx ftX10_nearest 10 [] 59 [some (.ref 4), some (.int (nI b1))] [.ref (tf_rf (tf_GG N) 6 (Int32.toNatClampNeg (nI b1))), .ref 28, .ref 120] S rfl ⟨by decide, by decide, rfl⟩ ⟨⟨⟨⟨⟨⟨trivial, ⟨by first | assumption | rfl | decide | omega | exact Nat.succ_ne_zero _, by first | assumption | rfl | decide | omega | exact Nat.succ_ne_zero _⟩⟩, ⟨by first | assumption | rfl | decide | omega | exact Nat.succ_ne_zero _, by first | assumption | rfl | decide | omega | exact Nat.succ_ne_zero _⟩⟩, ⟨by first | assumption | rfl | decide | omega | exact Nat.succ_ne_zero _, by first | assumption | rfl | decide | omega | exact Nat.succ_ne_zero _⟩⟩, ⟨by first | assumption | rfl | decide | omega | exact Nat.succ_ne_zero _, by first | assumption | rfl | decide | omega | exact Nat.succ_ne_zero _⟩⟩, ⟨by first | assumption | rfl | decide | omega | exact Nat.succ_ne_zero _, by first | assumption | rfl | decide | omega | exact Nat.succ_ne_zero _⟩⟩, ⟨by first | assumption | exact Or.inl rfl | exact Or.inr (Or.inl rfl) | exact Or.inr (Or.inr rfl) | omega, by exact tf_in (n := b1) (N := 4) rfl (by first | assumption | rfl) (by omega) (by decide), by first | assumption | rfl | decide | omega | exact Nat.succ_ne_zero _⟩⟩ ?_
        rw [ar]
        clear ar arn
        have tb : tf_tg (tf_GG N) (7 + 3 * b1) = 0 := (bdn b1_lt).1.1
        refine tf_cV hx ftX10_nearest (nx := 62) (As := [.ref 28, .ref (7 + 3 * b1)]) (rest := []) (st2 := []) (n_lay hS hg hb b1_lt) rfl lX10_183 (by first | assumption | rfl | decide) rfl ⟨rfl, by decide, by decide, by decide, rfl, rfl⟩ ?_
        refine tf_go hx ftX10_nearest 1 [] 63 [some (.ref 4), some (.int (nI b1))] [.ref 4] (tf_lx S A.1 b1) rfl ⟨by decide, by decide, rfl⟩ trivial ?_
        refine tf_cV hx ftX10_nearest (nx := 66) (As := []) (rest := []) (st2 := [.int (-9)]) ((by have h := n_near (N := N) hS2 (nw_1 h1j tf_sx_lx) hg hb (nw_K hg); rw [tf_cz_eq, if_neg e2] at h; exact h)) rfl lX10_191 (by first | assumption | rfl | decide) rfl ⟨rfl, by decide, by decide, by decide, rfl, rfl⟩ ?_
        exact tf_ret ftX10_nearest hR rfl ⟨by decide, by decide⟩ rfl rfl rfl
    · rw [if_neg e1]
      refine ⟨S, tf_Fn_of (own := RX10) false ⟨by decide, rfl, by decide⟩ (Nat.le_of_ble_eq_true rfl) trivial (fun x hx hR => ?_), hC, fc_id⟩
      show tf_K x 0 0 (tf_GG N) S 0 [some (.ref 4), some (.int (nI b1))] []
      refine tf_go hx ftX10_nearest 1 [] 1 [some (.ref 4), some (.int (nI b1))] [.int (nI b1)] S rfl ⟨by decide, by decide, rfl⟩ trivial ?_
      refine tf_cS hx ftX10_nearest (nx := 4) (As := [.int (nI b1)]) (rest := []) (st2 := [.int (if ¬ (nI b1) < 0 ∧ ¬ 4 ≤ (nI b1) then 0 else 1)]) (c_noBoard (nI b1)) rfl lX10_61 rfl ⟨rfl, by decide, by decide, by decide, rfl, rfl⟩ ?_
      rw [if_pos c0]
      refine tf_go hx ftX10_nearest 1 [true] 13 [some (.ref 4), some (.int (nI b1))] [] S rfl ⟨by decide, by decide, rfl⟩ ⟨trivial, (by decide)⟩ ?_
      refine tf_go hx ftX10_nearest 3 [] 20 [some (.ref 4), some (.int (nI b1))] [.ref 55] S rfl ⟨by decide, by decide, rfl⟩ ⟨⟨trivial, ⟨by first | assumption | rfl | decide | omega | exact Nat.succ_ne_zero _, by first | assumption | rfl | decide | omega | exact Nat.succ_ne_zero _⟩⟩, ⟨by first | assumption | rfl | decide | omega | exact Nat.succ_ne_zero _, by first | assumption | rfl | decide | omega | exact Nat.succ_ne_zero _⟩⟩ ?_
      refine tf_cV hx ftX10_nearest (nx := 23) (As := []) (rest := []) (st2 := [.int (nI (A.1 367))]) (v_size (nw_R hS hg)) rfl lX10_54 (by first | assumption | rfl | decide) rfl ⟨rfl, by decide, by decide, by decide, rfl, rfl⟩ ?_
      refine tf_go hx ftX10_nearest 3 [] 30 [some (.ref 4), some (.int (nI b1))] [.ref 28, .int (nI (A.1 367))] S rfl ⟨by decide, by decide, rfl⟩ ⟨⟨trivial, ⟨by first | assumption | rfl | decide | omega | exact Nat.succ_ne_zero _, by first | assumption | rfl | decide | omega | exact Nat.succ_ne_zero _⟩⟩, ⟨by first | assumption | rfl | decide | omega | exact Nat.succ_ne_zero _, by first | assumption | rfl | decide | omega | exact Nat.succ_ne_zero _⟩⟩ ?_
      refine tf_cV hx ftX10_nearest (nx := 33) (As := []) (rest := [.int (nI (A.1 367))]) (st2 := [.int (nI (A.1 364)), .int (nI (A.1 367))]) (v_size (nw_M hS hg)) rfl lX10_54 (by first | assumption | rfl | decide) rfl ⟨rfl, by decide, by decide, by decide, rfl, rfl⟩ ?_
      refine tf_go hx ftX10_nearest 1 [false] 36 [some (.ref 4), some (.int (nI b1))] [] S rfl ⟨by decide, by decide, rfl⟩ ⟨trivial, (tf_eqF (a := (A.1 367)) (b := (A.1 364)) rfl rfl (by have := hb 367; have := hb 364; omega) (by have := hb 367; have := hb 364; omega) (by have := hb 367; have := hb 364; omega))⟩ ?_
      refine tf_go hx ftX10_nearest 1 [] 38 [some (.ref 4), some (.int (nI b1))] [.int (-9)] S rfl ⟨by decide, by decide, rfl⟩ trivial ?_
      exact tf_ret ftX10_nearest hR rfl ⟨by decide, by decide⟩ rfl rfl rfl
  · rw [if_neg (fun h => c0 h)]
    refine ⟨tf_set S 124 1 (S 124 1 + 1), tf_Fn_of (own := RX10) false ⟨by decide, rfl, by decide⟩ (Nat.le_of_ble_eq_true rfl) trivial (fun x hx hR => ?_), cs_ref hA hC 1, fc_set (by omega)⟩
    show tf_K x 0 0 (tf_GG N) S 0 [some (.ref 4), some (.int b)] []
    refine tf_go hx ftX10_nearest 1 [] 1 [some (.ref 4), some (.int b)] [.int b] S rfl ⟨by decide, by decide, rfl⟩ trivial ?_
    refine tf_cS hx ftX10_nearest (nx := 4) (As := [.int b]) (rest := []) (st2 := [.int (if ¬ b < 0 ∧ ¬ 4 ≤ b then 0 else 1)]) (c_noBoard b) rfl lX10_61 rfl ⟨rfl, by decide, by decide, by decide, rfl, rfl⟩ ?_
    rw [if_neg c0]
    refine tf_go hx ftX10_nearest 1 [false] 7 [some (.ref 4), some (.int b)] [] S rfl ⟨by decide, by decide, rfl⟩ ⟨trivial, (by decide)⟩ ?_
    refine tf_go hx ftX10_nearest 2 [] 9 [some (.ref 4), some (.int b)] [.int (-1), .ref 4] S rfl ⟨by decide, by decide, rfl⟩ trivial ?_
    refine tf_cV hx ftX10_nearest (nx := 12) (As := [.int (-1)]) (rest := []) (st2 := [.int (-1)]) (n_ref1) rfl lX10_50 (by first | assumption | rfl | decide) rfl ⟨rfl, by decide, by decide, by decide, rfl, rfl⟩ ?_
    exact tf_ret ftX10_nearest hR rfl ⟨by decide, by decide⟩ rfl rfl rfl

set_option maxHeartbeats 2000000 in
theorem c_span {N : Nat} {S : tf_Sg} {A : tf_A} (b l : Int32) (g : Nat) (hA : tf_okA A) (hC : tf_cs S A) (hgg : g < 2) : tf_cpq mX10_span 6 N S [.ref 4, .int b, .int l, .int (nI g)] (s_span A b l g) := by
  obtain ⟨hg, hb, hA3, hA4, hA5, hA6⟩ := id hA
  obtain ⟨h1j, hS, hK5, ⟨hT1, hT2⟩, hRf, hIm⟩ := id hC
  obtain ⟨⟨g1, g2, g3, g4⟩, g5, g6, g7, g8, g9, g10, g11⟩ := id hg
  unfold s_span
  by_cases c0 : ¬ b < 0 ∧ ¬ 4 ≤ b
  · rw [if_pos c0]
    obtain ⟨b1, b1_lt, b1_eq, b1_cl⟩ := tf_ok_nI (N := 4) (show tf_ok b _ from c0) rfl (by decide)
    try rw [b1_cl]
    subst b1_eq
    by_cases d1 : ¬ l < 0 ∧ ¬ 3 ≤ l
    · rw [if_pos d1]
      obtain ⟨l1, l1_lt, l1_eq, l1_cl⟩ := tf_ok_nI (N := 3) (show tf_ok l _ from d1) rfl (by decide)
      try rw [l1_cl]
      subst l1_eq
      have hS2 : tf_st (tf_lx S A.1 b1) 5 A.1 := nw_st hS hg tf_sx_lx
      have hk2 : tf_k1 (tf_GG N) (tf_lx S A.1 b1) := tf_k1_of (nw_1 h1j tf_sx_lx)
      refine ⟨tf_lx S A.1 b1, tf_Fn_of (own := RX10) false ⟨by decide, rfl, by decide⟩ (Nat.le_of_ble_eq_true rfl) trivial (fun x hx hR => ?_), cs_sx hA hC tf_sx_lx, fc_sx tf_sx_lx⟩
      show tf_K x 0 0 (tf_GG N) S 0 [some (.ref 4), some (.int (nI b1)), some (.int (nI l1)), some (.int (nI g))] []
      refine tf_go hx ftX10_span 1 [] 1 [some (.ref 4), some (.int (nI b1)), some (.int (nI l1)), some (.int (nI g))] [.int (nI b1)] S rfl ⟨by decide, by decide, rfl⟩ trivial ?_
      refine tf_cS hx ftX10_span (nx := 4) (As := [.int (nI b1)]) (rest := []) (st2 := [.int (if ¬ (nI b1) < 0 ∧ ¬ 4 ≤ (nI b1) then 0 else 1)]) (c_noBoard (nI b1)) rfl lX10_61 rfl ⟨rfl, by decide, by decide, by decide, rfl, rfl⟩ ?_
      rw [if_pos c0]
      refine tf_go hx ftX10_span 1 [true] 13 [some (.ref 4), some (.int (nI b1)), some (.int (nI l1)), some (.int (nI g))] [] S rfl ⟨by decide, by decide, rfl⟩ ⟨trivial, (by decide)⟩ ?_
      refine tf_go hx ftX10_span 1 [] 14 [some (.ref 4), some (.int (nI b1)), some (.int (nI l1)), some (.int (nI g))] [.int (nI l1)] S rfl ⟨by decide, by decide, rfl⟩ trivial ?_
      refine tf_go hx ftX10_span 1 [false] 17 [some (.ref 4), some (.int (nI b1)), some (.int (nI l1)), some (.int (nI g))] [] S rfl ⟨by decide, by decide, rfl⟩ ⟨trivial, (tf_ltF (a := l1) (b := 0) rfl (rfl : (0 : Int32) = nI 0) (by omega) (by omega) (by omega))⟩ ?_
      refine tf_go hx ftX10_span 2 [] 19 [some (.ref 4), some (.int (nI b1)), some (.int (nI l1)), some (.int (nI g))] [.int 2, .int (nI l1)] S rfl ⟨by decide, by decide, rfl⟩ trivial ?_
      refine tf_go hx ftX10_span 1 [true] 29 [some (.ref 4), some (.int (nI b1)), some (.int (nI l1)), some (.int (nI g))] [] S rfl ⟨by decide, by decide, rfl⟩ ⟨trivial, (tf_leT (a := l1) (b := 2) rfl (rfl : (2 : Int32) = nI 2) (by omega) (by omega) (by omega))⟩ ?_
      have ar : tf_rf (tf_GG N) 6 (Int32.toNatClampNeg (nI b1)) = 7 + 3 * b1 := by rw [tf_cl_nI (by omega)]; exact (bdn b1_lt).2.2.2
      have arn : tf_rf (tf_GG N) 6 (Int32.toNatClampNeg (nI b1)) ≠ 0 := by rw [ar]; omega
      refine tf_go hx ftX10_span 10 [] 49 [some (.ref 4), some (.int (nI b1)), some (.int (nI l1)), some (.int (nI g))] [.ref (tf_rf (tf_GG N) 6 (Int32.toNatClampNeg (nI b1))), .ref 28, .ref 120] S rfl ⟨by decide, by decide, rfl⟩ ⟨⟨⟨⟨⟨⟨trivial, ⟨by first | assumption | rfl | decide | omega | exact Nat.succ_ne_zero _, by first | assumption | rfl | decide | omega | exact Nat.succ_ne_zero _⟩⟩, ⟨by first | assumption | rfl | decide | omega | exact Nat.succ_ne_zero _, by first | assumption | rfl | decide | omega | exact Nat.succ_ne_zero _⟩⟩, ⟨by first | assumption | rfl | decide | omega | exact Nat.succ_ne_zero _, by first | assumption | rfl | decide | omega | exact Nat.succ_ne_zero _⟩⟩, ⟨by first | assumption | rfl | decide | omega | exact Nat.succ_ne_zero _, by first | assumption | rfl | decide | omega | exact Nat.succ_ne_zero _⟩⟩, ⟨by first | assumption | rfl | decide | omega | exact Nat.succ_ne_zero _, by first | assumption | rfl | decide | omega | exact Nat.succ_ne_zero _⟩⟩, ⟨by first | assumption | exact Or.inl rfl | exact Or.inr (Or.inl rfl) | exact Or.inr (Or.inr rfl) | omega, by exact tf_in (n := b1) (N := 4) rfl (by first | assumption | rfl) (by omega) (by decide), by first | assumption | rfl | decide | omega | exact Nat.succ_ne_zero _⟩⟩ ?_
      rw [ar]
      clear ar arn
      have tb : tf_tg (tf_GG N) (7 + 3 * b1) = 0 := (bdn b1_lt).1.1
      refine tf_cV hx ftX10_span (nx := 52) (As := [.ref 28, .ref (7 + 3 * b1)]) (rest := []) (st2 := []) (n_lay hS hg hb b1_lt) rfl lX10_183 (by first | assumption | rfl | decide) rfl ⟨rfl, by decide, by decide, by decide, rfl, rfl⟩ ?_
      refine tf_go hx ftX10_span 7 [] 65 [some (.ref 4), some (.int (nI b1)), some (.int (nI l1)), some (.int (nI g))] [.int (nI g), .int (nI l1), .ref 55, .ref 120] (tf_lx S A.1 b1) rfl ⟨by decide, by decide, rfl⟩ ⟨⟨⟨trivial, ⟨by first | assumption | rfl | decide | omega | exact Nat.succ_ne_zero _, by first | assumption | rfl | decide | omega | exact Nat.succ_ne_zero _⟩⟩, ⟨by first | assumption | rfl | decide | omega | exact Nat.succ_ne_zero _, by first | assumption | rfl | decide | omega | exact Nat.succ_ne_zero _⟩⟩, ⟨by first | assumption | rfl | decide | omega | exact Nat.succ_ne_zero _, by first | assumption | rfl | decide | omega | exact Nat.succ_ne_zero _⟩⟩ ?_
      refine tf_cV hx ftX10_span (nx := 68) (As := [.ref 55, .int (nI l1), .int (nI g)]) (rest := []) (st2 := [.int (tf_on 10000 (tf_sp A.1 b1 l1 g 40 1 10000))]) (t_outer (nw_K hg) hg hb (nw_R hS2 hg) hk2 l1_lt hgg) rfl lX10_194 (by first | assumption | rfl | decide) rfl ⟨rfl, by decide, by decide, by decide, rfl, rfl⟩ ?_
      exact tf_ret ftX10_span hR rfl ⟨by decide, by decide⟩ rfl rfl rfl
    · rw [if_neg d1]
      refine ⟨tf_set S 124 2 (S 124 2 + 1), tf_Fn_of (own := RX10) false ⟨by decide, rfl, by decide⟩ (Nat.le_of_ble_eq_true rfl) trivial (fun x hx hR => ?_), cs_ref hA hC 2, fc_set (by omega)⟩
      show tf_K x 0 0 (tf_GG N) S 0 [some (.ref 4), some (.int (nI b1)), some (.int l), some (.int (nI g))] []
      refine tf_go hx ftX10_span 1 [] 1 [some (.ref 4), some (.int (nI b1)), some (.int l), some (.int (nI g))] [.int (nI b1)] S rfl ⟨by decide, by decide, rfl⟩ trivial ?_
      refine tf_cS hx ftX10_span (nx := 4) (As := [.int (nI b1)]) (rest := []) (st2 := [.int (if ¬ (nI b1) < 0 ∧ ¬ 4 ≤ (nI b1) then 0 else 1)]) (c_noBoard (nI b1)) rfl lX10_61 rfl ⟨rfl, by decide, by decide, by decide, rfl, rfl⟩ ?_
      rw [if_pos c0]
      refine tf_go hx ftX10_span 1 [true] 13 [some (.ref 4), some (.int (nI b1)), some (.int l), some (.int (nI g))] [] S rfl ⟨by decide, by decide, rfl⟩ ⟨trivial, (by decide)⟩ ?_
      refine tf_go hx ftX10_span 1 [] 14 [some (.ref 4), some (.int (nI b1)), some (.int l), some (.int (nI g))] [.int l] S rfl ⟨by decide, by decide, rfl⟩ trivial ?_
      by_cases z0 : l < 0
      · refine tf_go hx ftX10_span 1 [true] 22 [some (.ref 4), some (.int (nI b1)), some (.int l), some (.int (nI g))] [] S rfl ⟨by decide, by decide, rfl⟩ ⟨trivial, (by first | assumption | rfl | decide | omega | exact Nat.succ_ne_zero _)⟩ ?_
        refine tf_go hx ftX10_span 2 [] 25 [some (.ref 4), some (.int (nI b1)), some (.int l), some (.int (nI g))] [.int (-2), .ref 4] S rfl ⟨by decide, by decide, rfl⟩ trivial ?_
        refine tf_cV hx ftX10_span (nx := 28) (As := [.int (-2)]) (rest := []) (st2 := [.int (-2)]) (n_ref2) rfl lX10_50 (by first | assumption | rfl | decide) rfl ⟨rfl, by decide, by decide, by decide, rfl, rfl⟩ ?_
        exact tf_ret ftX10_span hR rfl ⟨by decide, by decide⟩ rfl rfl rfl
      · refine tf_go hx ftX10_span 1 [false] 17 [some (.ref 4), some (.int (nI b1)), some (.int l), some (.int (nI g))] [] S rfl ⟨by decide, by decide, rfl⟩ ⟨trivial, (by first | assumption | rfl | decide | omega | exact Nat.succ_ne_zero _)⟩ ?_
        refine tf_go hx ftX10_span 2 [] 19 [some (.ref 4), some (.int (nI b1)), some (.int l), some (.int (nI g))] [.int 2, .int l] S rfl ⟨by decide, by decide, rfl⟩ trivial ?_
        have z1 : 3 ≤ l := Classical.not_not.mp (fun z => d1 ⟨z0, z⟩)
        refine tf_go hx ftX10_span 1 [false] 22 [some (.ref 4), some (.int (nI b1)), some (.int l), some (.int (nI g))] [] S rfl ⟨by decide, by decide, rfl⟩ ⟨trivial, (fun z => absurd (Int32.le_trans z1 z) (by decide))⟩ ?_
        refine tf_go hx ftX10_span 2 [] 25 [some (.ref 4), some (.int (nI b1)), some (.int l), some (.int (nI g))] [.int (-2), .ref 4] S rfl ⟨by decide, by decide, rfl⟩ trivial ?_
        refine tf_cV hx ftX10_span (nx := 28) (As := [.int (-2)]) (rest := []) (st2 := [.int (-2)]) (n_ref2) rfl lX10_50 (by first | assumption | rfl | decide) rfl ⟨rfl, by decide, by decide, by decide, rfl, rfl⟩ ?_
        exact tf_ret ftX10_span hR rfl ⟨by decide, by decide⟩ rfl rfl rfl
  · rw [if_neg (fun h => c0 h)]
    refine ⟨tf_set S 124 1 (S 124 1 + 1), tf_Fn_of (own := RX10) false ⟨by decide, rfl, by decide⟩ (Nat.le_of_ble_eq_true rfl) trivial (fun x hx hR => ?_), cs_ref hA hC 1, fc_set (by omega)⟩
    show tf_K x 0 0 (tf_GG N) S 0 [some (.ref 4), some (.int b), some (.int l), some (.int (nI g))] []
    refine tf_go hx ftX10_span 1 [] 1 [some (.ref 4), some (.int b), some (.int l), some (.int (nI g))] [.int b] S rfl ⟨by decide, by decide, rfl⟩ trivial ?_
    refine tf_cS hx ftX10_span (nx := 4) (As := [.int b]) (rest := []) (st2 := [.int (if ¬ b < 0 ∧ ¬ 4 ≤ b then 0 else 1)]) (c_noBoard b) rfl lX10_61 rfl ⟨rfl, by decide, by decide, by decide, rfl, rfl⟩ ?_
    rw [if_neg c0]
    refine tf_go hx ftX10_span 1 [false] 7 [some (.ref 4), some (.int b), some (.int l), some (.int (nI g))] [] S rfl ⟨by decide, by decide, rfl⟩ ⟨trivial, (by decide)⟩ ?_
    refine tf_go hx ftX10_span 2 [] 9 [some (.ref 4), some (.int b), some (.int l), some (.int (nI g))] [.int (-1), .ref 4] S rfl ⟨by decide, by decide, rfl⟩ trivial ?_
    refine tf_cV hx ftX10_span (nx := 12) (As := [.int (-1)]) (rest := []) (st2 := [.int (-1)]) (n_ref1) rfl lX10_50 (by first | assumption | rfl | decide) rfl ⟨rfl, by decide, by decide, by decide, rfl, rfl⟩ ?_
    exact tf_ret ftX10_span hR rfl ⟨by decide, by decide⟩ rfl rfl rfl

set_option maxHeartbeats 2000000 in
theorem c_pauses {N : Nat} {S : tf_Sg} {A : tf_A} (b l r : Int32) (hA : tf_okA A) (hC : tf_cs S A)  : tf_cpq mX10_pauses 6 N S [.ref 4, .int b, .int l, .int r] (s_pauses A b l r) := by
  obtain ⟨hg, hb, hA3, hA4, hA5, hA6⟩ := id hA
  obtain ⟨h1j, hS, hK5, ⟨hT1, hT2⟩, hRf, hIm⟩ := id hC
  obtain ⟨⟨g1, g2, g3, g4⟩, g5, g6, g7, g8, g9, g10, g11⟩ := id hg
  unfold s_pauses
  by_cases c0 : ¬ b < 0 ∧ ¬ 4 ≤ b
  · rw [if_pos c0]
    obtain ⟨b1, b1_lt, b1_eq, b1_cl⟩ := tf_ok_nI (N := 4) (show tf_ok b _ from c0) rfl (by decide)
    try rw [b1_cl]
    subst b1_eq
    by_cases e1 : l < 1
    · rw [if_pos (Or.inl e1)]
      refine ⟨tf_set S 124 4 (S 124 4 + 1), tf_Fn_of (own := RX10) false ⟨by decide, rfl, by decide⟩ (Nat.le_of_ble_eq_true rfl) trivial (fun x hx hR => ?_), cs_ref hA hC 4, fc_set (by omega)⟩
      show tf_K x 0 0 (tf_GG N) S 0 [some (.ref 4), some (.int (nI b1)), some (.int l), some (.int r)] []
      refine tf_go hx ftX10_pauses 1 [] 1 [some (.ref 4), some (.int (nI b1)), some (.int l), some (.int r)] [.int (nI b1)] S rfl ⟨by decide, by decide, rfl⟩ trivial ?_
      refine tf_cS hx ftX10_pauses (nx := 4) (As := [.int (nI b1)]) (rest := []) (st2 := [.int (if ¬ (nI b1) < 0 ∧ ¬ 4 ≤ (nI b1) then 0 else 1)]) (c_noBoard (nI b1)) rfl lX10_61 rfl ⟨rfl, by decide, by decide, by decide, rfl, rfl⟩ ?_
      rw [if_pos c0]
      refine tf_go hx ftX10_pauses 1 [true] 13 [some (.ref 4), some (.int (nI b1)), some (.int l), some (.int r)] [] S rfl ⟨by decide, by decide, rfl⟩ ⟨trivial, (by decide)⟩ ?_
      refine tf_go hx ftX10_pauses 2 [] 15 [some (.ref 4), some (.int (nI b1)), some (.int l), some (.int r)] [.int 1, .int l] S rfl ⟨by decide, by decide, rfl⟩ trivial ?_
      refine tf_go hx ftX10_pauses 1 [true] 22 [some (.ref 4), some (.int (nI b1)), some (.int l), some (.int r)] [] S rfl ⟨by decide, by decide, rfl⟩ ⟨trivial, e1⟩ ?_
      refine tf_go hx ftX10_pauses 2 [] 25 [some (.ref 4), some (.int (nI b1)), some (.int l), some (.int r)] [.int (-4), .ref 4] S rfl ⟨by decide, by decide, rfl⟩ trivial ?_
      refine tf_cV hx ftX10_pauses (nx := 28) (As := [.int (-4)]) (rest := []) (st2 := [.int (-4)]) (n_ref4) rfl lX10_50 (by first | assumption | rfl | decide) rfl ⟨rfl, by decide, by decide, by decide, rfl, rfl⟩ ?_
      exact tf_ret ftX10_pauses hR rfl ⟨by decide, by decide⟩ rfl rfl rfl
    · by_cases e2 : r < 0
      · rw [if_pos (Or.inr e2)]
        refine ⟨tf_set S 124 4 (S 124 4 + 1), tf_Fn_of (own := RX10) false ⟨by decide, rfl, by decide⟩ (Nat.le_of_ble_eq_true rfl) trivial (fun x hx hR => ?_), cs_ref hA hC 4, fc_set (by omega)⟩
        show tf_K x 0 0 (tf_GG N) S 0 [some (.ref 4), some (.int (nI b1)), some (.int l), some (.int r)] []
        refine tf_go hx ftX10_pauses 1 [] 1 [some (.ref 4), some (.int (nI b1)), some (.int l), some (.int r)] [.int (nI b1)] S rfl ⟨by decide, by decide, rfl⟩ trivial ?_
        refine tf_cS hx ftX10_pauses (nx := 4) (As := [.int (nI b1)]) (rest := []) (st2 := [.int (if ¬ (nI b1) < 0 ∧ ¬ 4 ≤ (nI b1) then 0 else 1)]) (c_noBoard (nI b1)) rfl lX10_61 rfl ⟨rfl, by decide, by decide, by decide, rfl, rfl⟩ ?_
        rw [if_pos c0]
        refine tf_go hx ftX10_pauses 1 [true] 13 [some (.ref 4), some (.int (nI b1)), some (.int l), some (.int r)] [] S rfl ⟨by decide, by decide, rfl⟩ ⟨trivial, (by decide)⟩ ?_
        refine tf_go hx ftX10_pauses 2 [] 15 [some (.ref 4), some (.int (nI b1)), some (.int l), some (.int r)] [.int 1, .int l] S rfl ⟨by decide, by decide, rfl⟩ trivial ?_
        refine tf_go hx ftX10_pauses 1 [false] 18 [some (.ref 4), some (.int (nI b1)), some (.int l), some (.int r)] [] S rfl ⟨by decide, by decide, rfl⟩ ⟨trivial, e1⟩ ?_
        refine tf_go hx ftX10_pauses 1 [] 19 [some (.ref 4), some (.int (nI b1)), some (.int l), some (.int r)] [.int r] S rfl ⟨by decide, by decide, rfl⟩ trivial ?_
        refine tf_go hx ftX10_pauses 1 [false] 22 [some (.ref 4), some (.int (nI b1)), some (.int l), some (.int r)] [] S rfl ⟨by decide, by decide, rfl⟩ ⟨trivial, (Int32.not_le.mpr e2)⟩ ?_
        refine tf_go hx ftX10_pauses 2 [] 25 [some (.ref 4), some (.int (nI b1)), some (.int l), some (.int r)] [.int (-4), .ref 4] S rfl ⟨by decide, by decide, rfl⟩ trivial ?_
        refine tf_cV hx ftX10_pauses (nx := 28) (As := [.int (-4)]) (rest := []) (st2 := [.int (-4)]) (n_ref4) rfl lX10_50 (by first | assumption | rfl | decide) rfl ⟨rfl, by decide, by decide, by decide, rfl, rfl⟩ ?_
        exact tf_ret ftX10_pauses hR rfl ⟨by decide, by decide⟩ rfl rfl rfl
      · rw [if_neg (by rintro (h | h); exact e1 h; exact e2 h)]
        by_cases e3 : 999 < l
        · rw [if_pos (Or.inl e3)]
          refine ⟨tf_set S 124 6 (S 124 6 + 1), tf_Fn_of (own := RX10) false ⟨by decide, rfl, by decide⟩ (Nat.le_of_ble_eq_true rfl) trivial (fun x hx hR => ?_), cs_ref hA hC 6, fc_set (by omega)⟩
          show tf_K x 0 0 (tf_GG N) S 0 [some (.ref 4), some (.int (nI b1)), some (.int l), some (.int r)] []
          refine tf_go hx ftX10_pauses 1 [] 1 [some (.ref 4), some (.int (nI b1)), some (.int l), some (.int r)] [.int (nI b1)] S rfl ⟨by decide, by decide, rfl⟩ trivial ?_
          refine tf_cS hx ftX10_pauses (nx := 4) (As := [.int (nI b1)]) (rest := []) (st2 := [.int (if ¬ (nI b1) < 0 ∧ ¬ 4 ≤ (nI b1) then 0 else 1)]) (c_noBoard (nI b1)) rfl lX10_61 rfl ⟨rfl, by decide, by decide, by decide, rfl, rfl⟩ ?_
          rw [if_pos c0]
          refine tf_go hx ftX10_pauses 1 [true] 13 [some (.ref 4), some (.int (nI b1)), some (.int l), some (.int r)] [] S rfl ⟨by decide, by decide, rfl⟩ ⟨trivial, (by decide)⟩ ?_
          refine tf_go hx ftX10_pauses 2 [] 15 [some (.ref 4), some (.int (nI b1)), some (.int l), some (.int r)] [.int 1, .int l] S rfl ⟨by decide, by decide, rfl⟩ trivial ?_
          refine tf_go hx ftX10_pauses 1 [false] 18 [some (.ref 4), some (.int (nI b1)), some (.int l), some (.int r)] [] S rfl ⟨by decide, by decide, rfl⟩ ⟨trivial, e1⟩ ?_
          refine tf_go hx ftX10_pauses 1 [] 19 [some (.ref 4), some (.int (nI b1)), some (.int l), some (.int r)] [.int r] S rfl ⟨by decide, by decide, rfl⟩ trivial ?_
          refine tf_go hx ftX10_pauses 1 [true] 29 [some (.ref 4), some (.int (nI b1)), some (.int l), some (.int r)] [] S rfl ⟨by decide, by decide, rfl⟩ ⟨trivial, (Int32.not_lt.mp e2)⟩ ?_
          refine tf_go hx ftX10_pauses 2 [] 33 [some (.ref 4), some (.int (nI b1)), some (.int l), some (.int r)] [.int 999, .int l] S rfl ⟨by decide, by decide, rfl⟩ trivial ?_
          refine tf_go hx ftX10_pauses 1 [true] 43 [some (.ref 4), some (.int (nI b1)), some (.int l), some (.int r)] [] S rfl ⟨by decide, by decide, rfl⟩ ⟨trivial, e3⟩ ?_
          refine tf_go hx ftX10_pauses 2 [] 46 [some (.ref 4), some (.int (nI b1)), some (.int l), some (.int r)] [.int (-6), .ref 4] S rfl ⟨by decide, by decide, rfl⟩ trivial ?_
          refine tf_cV hx ftX10_pauses (nx := 49) (As := [.int (-6)]) (rest := []) (st2 := [.int (-6)]) (n_ref6) rfl lX10_50 (by first | assumption | rfl | decide) rfl ⟨rfl, by decide, by decide, by decide, rfl, rfl⟩ ?_
          exact tf_ret ftX10_pauses hR rfl ⟨by decide, by decide⟩ rfl rfl rfl
        · by_cases e4 : 999 < r
          · rw [if_pos (Or.inr e4)]
            refine ⟨tf_set S 124 6 (S 124 6 + 1), tf_Fn_of (own := RX10) false ⟨by decide, rfl, by decide⟩ (Nat.le_of_ble_eq_true rfl) trivial (fun x hx hR => ?_), cs_ref hA hC 6, fc_set (by omega)⟩
            show tf_K x 0 0 (tf_GG N) S 0 [some (.ref 4), some (.int (nI b1)), some (.int l), some (.int r)] []
            refine tf_go hx ftX10_pauses 1 [] 1 [some (.ref 4), some (.int (nI b1)), some (.int l), some (.int r)] [.int (nI b1)] S rfl ⟨by decide, by decide, rfl⟩ trivial ?_
            refine tf_cS hx ftX10_pauses (nx := 4) (As := [.int (nI b1)]) (rest := []) (st2 := [.int (if ¬ (nI b1) < 0 ∧ ¬ 4 ≤ (nI b1) then 0 else 1)]) (c_noBoard (nI b1)) rfl lX10_61 rfl ⟨rfl, by decide, by decide, by decide, rfl, rfl⟩ ?_
            rw [if_pos c0]
            refine tf_go hx ftX10_pauses 1 [true] 13 [some (.ref 4), some (.int (nI b1)), some (.int l), some (.int r)] [] S rfl ⟨by decide, by decide, rfl⟩ ⟨trivial, (by decide)⟩ ?_
            refine tf_go hx ftX10_pauses 2 [] 15 [some (.ref 4), some (.int (nI b1)), some (.int l), some (.int r)] [.int 1, .int l] S rfl ⟨by decide, by decide, rfl⟩ trivial ?_
            refine tf_go hx ftX10_pauses 1 [false] 18 [some (.ref 4), some (.int (nI b1)), some (.int l), some (.int r)] [] S rfl ⟨by decide, by decide, rfl⟩ ⟨trivial, e1⟩ ?_
            refine tf_go hx ftX10_pauses 1 [] 19 [some (.ref 4), some (.int (nI b1)), some (.int l), some (.int r)] [.int r] S rfl ⟨by decide, by decide, rfl⟩ trivial ?_
            refine tf_go hx ftX10_pauses 1 [true] 29 [some (.ref 4), some (.int (nI b1)), some (.int l), some (.int r)] [] S rfl ⟨by decide, by decide, rfl⟩ ⟨trivial, (Int32.not_lt.mp e2)⟩ ?_
            refine tf_go hx ftX10_pauses 2 [] 33 [some (.ref 4), some (.int (nI b1)), some (.int l), some (.int r)] [.int 999, .int l] S rfl ⟨by decide, by decide, rfl⟩ trivial ?_
            refine tf_go hx ftX10_pauses 1 [false] 36 [some (.ref 4), some (.int (nI b1)), some (.int l), some (.int r)] [] S rfl ⟨by decide, by decide, rfl⟩ ⟨trivial, e3⟩ ?_
            refine tf_go hx ftX10_pauses 2 [] 40 [some (.ref 4), some (.int (nI b1)), some (.int l), some (.int r)] [.int 999, .int r] S rfl ⟨by decide, by decide, rfl⟩ trivial ?_
            refine tf_go hx ftX10_pauses 1 [false] 43 [some (.ref 4), some (.int (nI b1)), some (.int l), some (.int r)] [] S rfl ⟨by decide, by decide, rfl⟩ ⟨trivial, (Int32.not_le.mpr e4)⟩ ?_
            refine tf_go hx ftX10_pauses 2 [] 46 [some (.ref 4), some (.int (nI b1)), some (.int l), some (.int r)] [.int (-6), .ref 4] S rfl ⟨by decide, by decide, rfl⟩ trivial ?_
            refine tf_cV hx ftX10_pauses (nx := 49) (As := [.int (-6)]) (rest := []) (st2 := [.int (-6)]) (n_ref6) rfl lX10_50 (by first | assumption | rfl | decide) rfl ⟨rfl, by decide, by decide, by decide, rfl, rfl⟩ ?_
            exact tf_ret ftX10_pauses hR rfl ⟨by decide, by decide⟩ rfl rfl rfl
          · rw [if_neg (by rintro (h | h); exact e3 h; exact e4 h)]
            obtain ⟨l1, l1_le, l1_eq⟩ := nI_of2 (M := 999) (n := 999) (x := l) (by decide) (fun h => e1 (Int32.lt_trans h (by decide))) (Int32.not_lt.mp e3)
            have l1_cl : l.toNatClampNeg = l1 := by rw [l1_eq]; exact tf_cl_nI (by omega)
            try rw [l1_cl]
            subst l1_eq
            obtain ⟨r1, r1_le, r1_eq⟩ := nI_of2 (M := 999) (n := 999) (x := r) (by decide) (e2) (Int32.not_lt.mp e4)
            have r1_cl : r.toNatClampNeg = r1 := by rw [r1_eq]; exact tf_cl_nI (by omega)
            try rw [r1_cl]
            subst r1_eq
            have hS2 : tf_st (tf_lx S A.1 b1) 5 A.1 := nw_st hS hg tf_sx_lx
            have hk2 : tf_k1 (tf_GG N) (tf_lx S A.1 b1) := tf_k1_of (nw_1 h1j tf_sx_lx)
            refine ⟨tf_lx S A.1 b1, tf_Fn_of (own := RX10) false ⟨by decide, rfl, by decide⟩ (Nat.le_of_ble_eq_true rfl) trivial (fun x hx hR => ?_), cs_sx hA hC tf_sx_lx, fc_sx tf_sx_lx⟩
            show tf_K x 0 0 (tf_GG N) S 0 [some (.ref 4), some (.int (nI b1)), some (.int (nI l1)), some (.int (nI r1))] []
            refine tf_go hx ftX10_pauses 1 [] 1 [some (.ref 4), some (.int (nI b1)), some (.int (nI l1)), some (.int (nI r1))] [.int (nI b1)] S rfl ⟨by decide, by decide, rfl⟩ trivial ?_
            refine tf_cS hx ftX10_pauses (nx := 4) (As := [.int (nI b1)]) (rest := []) (st2 := [.int (if ¬ (nI b1) < 0 ∧ ¬ 4 ≤ (nI b1) then 0 else 1)]) (c_noBoard (nI b1)) rfl lX10_61 rfl ⟨rfl, by decide, by decide, by decide, rfl, rfl⟩ ?_
            rw [if_pos c0]
            refine tf_go hx ftX10_pauses 1 [true] 13 [some (.ref 4), some (.int (nI b1)), some (.int (nI l1)), some (.int (nI r1))] [] S rfl ⟨by decide, by decide, rfl⟩ ⟨trivial, (by decide)⟩ ?_
            refine tf_go hx ftX10_pauses 2 [] 15 [some (.ref 4), some (.int (nI b1)), some (.int (nI l1)), some (.int (nI r1))] [.int 1, .int (nI l1)] S rfl ⟨by decide, by decide, rfl⟩ trivial ?_
            refine tf_go hx ftX10_pauses 1 [false] 18 [some (.ref 4), some (.int (nI b1)), some (.int (nI l1)), some (.int (nI r1))] [] S rfl ⟨by decide, by decide, rfl⟩ ⟨trivial, e1⟩ ?_
            refine tf_go hx ftX10_pauses 1 [] 19 [some (.ref 4), some (.int (nI b1)), some (.int (nI l1)), some (.int (nI r1))] [.int (nI r1)] S rfl ⟨by decide, by decide, rfl⟩ trivial ?_
            refine tf_go hx ftX10_pauses 1 [true] 29 [some (.ref 4), some (.int (nI b1)), some (.int (nI l1)), some (.int (nI r1))] [] S rfl ⟨by decide, by decide, rfl⟩ ⟨trivial, (Int32.not_lt.mp e2)⟩ ?_
            refine tf_go hx ftX10_pauses 2 [] 33 [some (.ref 4), some (.int (nI b1)), some (.int (nI l1)), some (.int (nI r1))] [.int 999, .int (nI l1)] S rfl ⟨by decide, by decide, rfl⟩ trivial ?_
            refine tf_go hx ftX10_pauses 1 [false] 36 [some (.ref 4), some (.int (nI b1)), some (.int (nI l1)), some (.int (nI r1))] [] S rfl ⟨by decide, by decide, rfl⟩ ⟨trivial, e3⟩ ?_
            refine tf_go hx ftX10_pauses 2 [] 40 [some (.ref 4), some (.int (nI b1)), some (.int (nI l1)), some (.int (nI r1))] [.int 999, .int (nI r1)] S rfl ⟨by decide, by decide, rfl⟩ trivial ?_
            refine tf_go hx ftX10_pauses 1 [true] 50 [some (.ref 4), some (.int (nI b1)), some (.int (nI l1)), some (.int (nI r1))] [] S rfl ⟨by decide, by decide, rfl⟩ ⟨trivial, (Int32.not_lt.mp e4)⟩ ?_
            have ar : tf_rf (tf_GG N) 6 (Int32.toNatClampNeg (nI b1)) = 7 + 3 * b1 := by rw [tf_cl_nI (by omega)]; exact (bdn b1_lt).2.2.2
            have arn : tf_rf (tf_GG N) 6 (Int32.toNatClampNeg (nI b1)) ≠ 0 := by rw [ar]; omega
            refine tf_go hx ftX10_pauses 10 [] 70 [some (.ref 4), some (.int (nI b1)), some (.int (nI l1)), some (.int (nI r1))] [.ref (tf_rf (tf_GG N) 6 (Int32.toNatClampNeg (nI b1))), .ref 28, .ref 120] S rfl ⟨by decide, by decide, rfl⟩ ⟨⟨⟨⟨⟨⟨trivial, ⟨by first | assumption | rfl | decide | omega | exact Nat.succ_ne_zero _, by first | assumption | rfl | decide | omega | exact Nat.succ_ne_zero _⟩⟩, ⟨by first | assumption | rfl | decide | omega | exact Nat.succ_ne_zero _, by first | assumption | rfl | decide | omega | exact Nat.succ_ne_zero _⟩⟩, ⟨by first | assumption | rfl | decide | omega | exact Nat.succ_ne_zero _, by first | assumption | rfl | decide | omega | exact Nat.succ_ne_zero _⟩⟩, ⟨by first | assumption | rfl | decide | omega | exact Nat.succ_ne_zero _, by first | assumption | rfl | decide | omega | exact Nat.succ_ne_zero _⟩⟩, ⟨by first | assumption | rfl | decide | omega | exact Nat.succ_ne_zero _, by first | assumption | rfl | decide | omega | exact Nat.succ_ne_zero _⟩⟩, ⟨by first | assumption | exact Or.inl rfl | exact Or.inr (Or.inl rfl) | exact Or.inr (Or.inr rfl) | omega, by exact tf_in (n := b1) (N := 4) rfl (by first | assumption | rfl) (by omega) (by decide), by first | assumption | rfl | decide | omega | exact Nat.succ_ne_zero _⟩⟩ ?_
            rw [ar]
            clear ar arn
            have tb : tf_tg (tf_GG N) (7 + 3 * b1) = 0 := (bdn b1_lt).1.1
            refine tf_cV hx ftX10_pauses (nx := 73) (As := [.ref 28, .ref (7 + 3 * b1)]) (rest := []) (st2 := []) (n_lay hS hg hb b1_lt) rfl lX10_183 (by first | assumption | rfl | decide) rfl ⟨rfl, by decide, by decide, by decide, rfl, rfl⟩ ?_
            refine tf_go hx ftX10_pauses 4 [] 79 [some (.ref 4), some (.int (nI b1)), some (.int (nI l1)), some (.int (nI r1))] [.int (nI r1), .int (nI l1), .ref 120] (tf_lx S A.1 b1) rfl ⟨by decide, by decide, rfl⟩ ⟨trivial, ⟨by first | assumption | rfl | decide | omega | exact Nat.succ_ne_zero _, by first | assumption | rfl | decide | omega | exact Nat.succ_ne_zero _⟩⟩ ?_
            refine tf_cV hx ftX10_pauses (nx := 82) (As := [.int (nI l1), .int (nI r1)]) (rest := []) (st2 := [.int (tf_on 100000 (tf_pz A.1 b1 l1 r1 41 0 0 0))]) (t_pauses (nw_K hg) hg hb hk2 (by omega) (by omega)) rfl lX10_201 (by first | assumption | rfl | decide) rfl ⟨rfl, by decide, by decide, by decide, rfl, rfl⟩ ?_
            exact tf_ret ftX10_pauses hR rfl ⟨by decide, by decide⟩ rfl rfl rfl
  · rw [if_neg (fun h => c0 h)]
    refine ⟨tf_set S 124 1 (S 124 1 + 1), tf_Fn_of (own := RX10) false ⟨by decide, rfl, by decide⟩ (Nat.le_of_ble_eq_true rfl) trivial (fun x hx hR => ?_), cs_ref hA hC 1, fc_set (by omega)⟩
    show tf_K x 0 0 (tf_GG N) S 0 [some (.ref 4), some (.int b), some (.int l), some (.int r)] []
    refine tf_go hx ftX10_pauses 1 [] 1 [some (.ref 4), some (.int b), some (.int l), some (.int r)] [.int b] S rfl ⟨by decide, by decide, rfl⟩ trivial ?_
    refine tf_cS hx ftX10_pauses (nx := 4) (As := [.int b]) (rest := []) (st2 := [.int (if ¬ b < 0 ∧ ¬ 4 ≤ b then 0 else 1)]) (c_noBoard b) rfl lX10_61 rfl ⟨rfl, by decide, by decide, by decide, rfl, rfl⟩ ?_
    rw [if_neg c0]
    refine tf_go hx ftX10_pauses 1 [false] 7 [some (.ref 4), some (.int b), some (.int l), some (.int r)] [] S rfl ⟨by decide, by decide, rfl⟩ ⟨trivial, (by decide)⟩ ?_
    refine tf_go hx ftX10_pauses 2 [] 9 [some (.ref 4), some (.int b), some (.int l), some (.int r)] [.int (-1), .ref 4] S rfl ⟨by decide, by decide, rfl⟩ trivial ?_
    refine tf_cV hx ftX10_pauses (nx := 12) (As := [.int (-1)]) (rest := []) (st2 := [.int (-1)]) (n_ref1) rfl lX10_50 (by first | assumption | rfl | decide) rfl ⟨rfl, by decide, by decide, by decide, rfl, rfl⟩ ?_
    exact tf_ret ftX10_pauses hR rfl ⟨by decide, by decide⟩ rfl rfl rfl

set_option maxHeartbeats 2000000 in
theorem c_pace {N : Nat} {S : tf_Sg} {A : tf_A} (h b p d : Int32) (hA : tf_okA A) (hC : tf_cs S A)  : tf_cpq mX10_pace 7 N S [.ref 4, .int h, .int b, .int p, .int d] (s_pace A h b p d) := by
  obtain ⟨hg, hb, hA3, hA4, hA5, hA6⟩ := id hA
  obtain ⟨h1j, hS, hK5, ⟨hT1, hT2⟩, hRf, hIm⟩ := id hC
  obtain ⟨⟨g1, g2, g3, g4⟩, g5, g6, g7, g8, g9, g10, g11⟩ := id hg
  unfold s_pace
  by_cases c0 : ¬ h < 0 ∧ ¬ 4 ≤ h
  · by_cases c1 : ¬ b < 0 ∧ ¬ 4 ≤ b
    · rw [if_pos ⟨c0, c1⟩]
      obtain ⟨h1, h1_lt, h1_eq, h1_cl⟩ := tf_ok_nI (N := 4) (show tf_ok h _ from c0) rfl (by decide)
      try rw [h1_cl]
      obtain ⟨b1, b1_lt, b1_eq, b1_cl⟩ := tf_ok_nI (N := 4) (show tf_ok b _ from c1) rfl (by decide)
      try rw [b1_cl]
      subst h1_eq
      subst b1_eq
      by_cases e1 : p < 1
      · rw [if_pos (Or.inl e1)]
        refine ⟨tf_set S 124 4 (S 124 4 + 1), tf_Fn_of (own := RX10) false ⟨by decide, rfl, by decide⟩ (Nat.le_of_ble_eq_true rfl) trivial (fun x hx hR => ?_), cs_ref hA hC 4, fc_set (by omega)⟩
        show tf_K x 0 0 (tf_GG N) S 0 [some (.ref 4), some (.int (nI h1)), some (.int (nI b1)), some (.int p), some (.int d)] []
        refine tf_go hx ftX10_pace 1 [] 1 [some (.ref 4), some (.int (nI h1)), some (.int (nI b1)), some (.int p), some (.int d)] [.int (nI h1)] S rfl ⟨by decide, by decide, rfl⟩ trivial ?_
        refine tf_cS hx ftX10_pace (nx := 4) (As := [.int (nI h1)]) (rest := []) (st2 := [.int (if ¬ (nI h1) < 0 ∧ ¬ 4 ≤ (nI h1) then 0 else 1)]) (c_noHand (nI h1)) rfl lX10_122 rfl ⟨rfl, by decide, by decide, by decide, rfl, rfl⟩ ?_
        rw [if_pos c0]
        refine tf_go hx ftX10_pace 1 [false] 7 [some (.ref 4), some (.int (nI h1)), some (.int (nI b1)), some (.int p), some (.int d)] [] S rfl ⟨by decide, by decide, rfl⟩ ⟨trivial, (by decide)⟩ ?_
        refine tf_go hx ftX10_pace 1 [] 8 [some (.ref 4), some (.int (nI h1)), some (.int (nI b1)), some (.int p), some (.int d)] [.int (nI b1)] S rfl ⟨by decide, by decide, rfl⟩ trivial ?_
        refine tf_cS hx ftX10_pace (nx := 11) (As := [.int (nI b1)]) (rest := []) (st2 := [.int (if ¬ (nI b1) < 0 ∧ ¬ 4 ≤ (nI b1) then 0 else 1)]) (c_noBoard (nI b1)) rfl lX10_61 rfl ⟨rfl, by decide, by decide, by decide, rfl, rfl⟩ ?_
        rw [if_pos c1]
        refine tf_go hx ftX10_pace 1 [true] 20 [some (.ref 4), some (.int (nI h1)), some (.int (nI b1)), some (.int p), some (.int d)] [] S rfl ⟨by decide, by decide, rfl⟩ ⟨trivial, (by decide)⟩ ?_
        refine tf_go hx ftX10_pace 2 [] 22 [some (.ref 4), some (.int (nI h1)), some (.int (nI b1)), some (.int p), some (.int d)] [.int 1, .int p] S rfl ⟨by decide, by decide, rfl⟩ trivial ?_
        refine tf_go hx ftX10_pace 1 [true] 30 [some (.ref 4), some (.int (nI h1)), some (.int (nI b1)), some (.int p), some (.int d)] [] S rfl ⟨by decide, by decide, rfl⟩ ⟨trivial, e1⟩ ?_
        refine tf_go hx ftX10_pace 2 [] 33 [some (.ref 4), some (.int (nI h1)), some (.int (nI b1)), some (.int p), some (.int d)] [.int (-4), .ref 4] S rfl ⟨by decide, by decide, rfl⟩ trivial ?_
        refine tf_cV hx ftX10_pace (nx := 36) (As := [.int (-4)]) (rest := []) (st2 := [.int (-4)]) (n_ref4) rfl lX10_50 (by first | assumption | rfl | decide) rfl ⟨rfl, by decide, by decide, by decide, rfl, rfl⟩ ?_
        exact tf_ret ftX10_pace hR rfl ⟨by decide, by decide⟩ rfl rfl rfl
      · by_cases e2 : d < 0
        · rw [if_pos (Or.inr e2)]
          refine ⟨tf_set S 124 4 (S 124 4 + 1), tf_Fn_of (own := RX10) false ⟨by decide, rfl, by decide⟩ (Nat.le_of_ble_eq_true rfl) trivial (fun x hx hR => ?_), cs_ref hA hC 4, fc_set (by omega)⟩
          show tf_K x 0 0 (tf_GG N) S 0 [some (.ref 4), some (.int (nI h1)), some (.int (nI b1)), some (.int p), some (.int d)] []
          refine tf_go hx ftX10_pace 1 [] 1 [some (.ref 4), some (.int (nI h1)), some (.int (nI b1)), some (.int p), some (.int d)] [.int (nI h1)] S rfl ⟨by decide, by decide, rfl⟩ trivial ?_
          refine tf_cS hx ftX10_pace (nx := 4) (As := [.int (nI h1)]) (rest := []) (st2 := [.int (if ¬ (nI h1) < 0 ∧ ¬ 4 ≤ (nI h1) then 0 else 1)]) (c_noHand (nI h1)) rfl lX10_122 rfl ⟨rfl, by decide, by decide, by decide, rfl, rfl⟩ ?_
          rw [if_pos c0]
          refine tf_go hx ftX10_pace 1 [false] 7 [some (.ref 4), some (.int (nI h1)), some (.int (nI b1)), some (.int p), some (.int d)] [] S rfl ⟨by decide, by decide, rfl⟩ ⟨trivial, (by decide)⟩ ?_
          refine tf_go hx ftX10_pace 1 [] 8 [some (.ref 4), some (.int (nI h1)), some (.int (nI b1)), some (.int p), some (.int d)] [.int (nI b1)] S rfl ⟨by decide, by decide, rfl⟩ trivial ?_
          refine tf_cS hx ftX10_pace (nx := 11) (As := [.int (nI b1)]) (rest := []) (st2 := [.int (if ¬ (nI b1) < 0 ∧ ¬ 4 ≤ (nI b1) then 0 else 1)]) (c_noBoard (nI b1)) rfl lX10_61 rfl ⟨rfl, by decide, by decide, by decide, rfl, rfl⟩ ?_
          rw [if_pos c1]
          refine tf_go hx ftX10_pace 1 [true] 20 [some (.ref 4), some (.int (nI h1)), some (.int (nI b1)), some (.int p), some (.int d)] [] S rfl ⟨by decide, by decide, rfl⟩ ⟨trivial, (by decide)⟩ ?_
          refine tf_go hx ftX10_pace 2 [] 22 [some (.ref 4), some (.int (nI h1)), some (.int (nI b1)), some (.int p), some (.int d)] [.int 1, .int p] S rfl ⟨by decide, by decide, rfl⟩ trivial ?_
          refine tf_go hx ftX10_pace 1 [false] 25 [some (.ref 4), some (.int (nI h1)), some (.int (nI b1)), some (.int p), some (.int d)] [] S rfl ⟨by decide, by decide, rfl⟩ ⟨trivial, e1⟩ ?_
          refine tf_go hx ftX10_pace 1 [] 27 [some (.ref 4), some (.int (nI h1)), some (.int (nI b1)), some (.int p), some (.int d)] [.int d] S rfl ⟨by decide, by decide, rfl⟩ trivial ?_
          refine tf_go hx ftX10_pace 1 [false] 30 [some (.ref 4), some (.int (nI h1)), some (.int (nI b1)), some (.int p), some (.int d)] [] S rfl ⟨by decide, by decide, rfl⟩ ⟨trivial, (Int32.not_le.mpr e2)⟩ ?_
          refine tf_go hx ftX10_pace 2 [] 33 [some (.ref 4), some (.int (nI h1)), some (.int (nI b1)), some (.int p), some (.int d)] [.int (-4), .ref 4] S rfl ⟨by decide, by decide, rfl⟩ trivial ?_
          refine tf_cV hx ftX10_pace (nx := 36) (As := [.int (-4)]) (rest := []) (st2 := [.int (-4)]) (n_ref4) rfl lX10_50 (by first | assumption | rfl | decide) rfl ⟨rfl, by decide, by decide, by decide, rfl, rfl⟩ ?_
          exact tf_ret ftX10_pace hR rfl ⟨by decide, by decide⟩ rfl rfl rfl
        · rw [if_neg (by rintro (h | h); exact e1 h; exact e2 h)]
          by_cases e3 : 9 < p
          · rw [if_pos (Or.inl e3)]
            refine ⟨tf_set S 124 6 (S 124 6 + 1), tf_Fn_of (own := RX10) false ⟨by decide, rfl, by decide⟩ (Nat.le_of_ble_eq_true rfl) trivial (fun x hx hR => ?_), cs_ref hA hC 6, fc_set (by omega)⟩
            show tf_K x 0 0 (tf_GG N) S 0 [some (.ref 4), some (.int (nI h1)), some (.int (nI b1)), some (.int p), some (.int d)] []
            refine tf_go hx ftX10_pace 1 [] 1 [some (.ref 4), some (.int (nI h1)), some (.int (nI b1)), some (.int p), some (.int d)] [.int (nI h1)] S rfl ⟨by decide, by decide, rfl⟩ trivial ?_
            refine tf_cS hx ftX10_pace (nx := 4) (As := [.int (nI h1)]) (rest := []) (st2 := [.int (if ¬ (nI h1) < 0 ∧ ¬ 4 ≤ (nI h1) then 0 else 1)]) (c_noHand (nI h1)) rfl lX10_122 rfl ⟨rfl, by decide, by decide, by decide, rfl, rfl⟩ ?_
            rw [if_pos c0]
            refine tf_go hx ftX10_pace 1 [false] 7 [some (.ref 4), some (.int (nI h1)), some (.int (nI b1)), some (.int p), some (.int d)] [] S rfl ⟨by decide, by decide, rfl⟩ ⟨trivial, (by decide)⟩ ?_
            refine tf_go hx ftX10_pace 1 [] 8 [some (.ref 4), some (.int (nI h1)), some (.int (nI b1)), some (.int p), some (.int d)] [.int (nI b1)] S rfl ⟨by decide, by decide, rfl⟩ trivial ?_
            refine tf_cS hx ftX10_pace (nx := 11) (As := [.int (nI b1)]) (rest := []) (st2 := [.int (if ¬ (nI b1) < 0 ∧ ¬ 4 ≤ (nI b1) then 0 else 1)]) (c_noBoard (nI b1)) rfl lX10_61 rfl ⟨rfl, by decide, by decide, by decide, rfl, rfl⟩ ?_
            rw [if_pos c1]
            refine tf_go hx ftX10_pace 1 [true] 20 [some (.ref 4), some (.int (nI h1)), some (.int (nI b1)), some (.int p), some (.int d)] [] S rfl ⟨by decide, by decide, rfl⟩ ⟨trivial, (by decide)⟩ ?_
            refine tf_go hx ftX10_pace 2 [] 22 [some (.ref 4), some (.int (nI h1)), some (.int (nI b1)), some (.int p), some (.int d)] [.int 1, .int p] S rfl ⟨by decide, by decide, rfl⟩ trivial ?_
            refine tf_go hx ftX10_pace 1 [false] 25 [some (.ref 4), some (.int (nI h1)), some (.int (nI b1)), some (.int p), some (.int d)] [] S rfl ⟨by decide, by decide, rfl⟩ ⟨trivial, e1⟩ ?_
            refine tf_go hx ftX10_pace 1 [] 27 [some (.ref 4), some (.int (nI h1)), some (.int (nI b1)), some (.int p), some (.int d)] [.int d] S rfl ⟨by decide, by decide, rfl⟩ trivial ?_
            refine tf_go hx ftX10_pace 1 [true] 37 [some (.ref 4), some (.int (nI h1)), some (.int (nI b1)), some (.int p), some (.int d)] [] S rfl ⟨by decide, by decide, rfl⟩ ⟨trivial, (Int32.not_lt.mp e2)⟩ ?_
            refine tf_go hx ftX10_pace 2 [] 40 [some (.ref 4), some (.int (nI h1)), some (.int (nI b1)), some (.int p), some (.int d)] [.int 9, .int p] S rfl ⟨by decide, by decide, rfl⟩ trivial ?_
            refine tf_go hx ftX10_pace 1 [true] 51 [some (.ref 4), some (.int (nI h1)), some (.int (nI b1)), some (.int p), some (.int d)] [] S rfl ⟨by decide, by decide, rfl⟩ ⟨trivial, e3⟩ ?_
            refine tf_go hx ftX10_pace 2 [] 54 [some (.ref 4), some (.int (nI h1)), some (.int (nI b1)), some (.int p), some (.int d)] [.int (-6), .ref 4] S rfl ⟨by decide, by decide, rfl⟩ trivial ?_
            refine tf_cV hx ftX10_pace (nx := 57) (As := [.int (-6)]) (rest := []) (st2 := [.int (-6)]) (n_ref6) rfl lX10_50 (by first | assumption | rfl | decide) rfl ⟨rfl, by decide, by decide, by decide, rfl, rfl⟩ ?_
            exact tf_ret ftX10_pace hR rfl ⟨by decide, by decide⟩ rfl rfl rfl
          · by_cases e4 : 9999 < d
            · rw [if_pos (Or.inr e4)]
              refine ⟨tf_set S 124 6 (S 124 6 + 1), tf_Fn_of (own := RX10) false ⟨by decide, rfl, by decide⟩ (Nat.le_of_ble_eq_true rfl) trivial (fun x hx hR => ?_), cs_ref hA hC 6, fc_set (by omega)⟩
              show tf_K x 0 0 (tf_GG N) S 0 [some (.ref 4), some (.int (nI h1)), some (.int (nI b1)), some (.int p), some (.int d)] []
              refine tf_go hx ftX10_pace 1 [] 1 [some (.ref 4), some (.int (nI h1)), some (.int (nI b1)), some (.int p), some (.int d)] [.int (nI h1)] S rfl ⟨by decide, by decide, rfl⟩ trivial ?_
              refine tf_cS hx ftX10_pace (nx := 4) (As := [.int (nI h1)]) (rest := []) (st2 := [.int (if ¬ (nI h1) < 0 ∧ ¬ 4 ≤ (nI h1) then 0 else 1)]) (c_noHand (nI h1)) rfl lX10_122 rfl ⟨rfl, by decide, by decide, by decide, rfl, rfl⟩ ?_
              rw [if_pos c0]
              refine tf_go hx ftX10_pace 1 [false] 7 [some (.ref 4), some (.int (nI h1)), some (.int (nI b1)), some (.int p), some (.int d)] [] S rfl ⟨by decide, by decide, rfl⟩ ⟨trivial, (by decide)⟩ ?_
              refine tf_go hx ftX10_pace 1 [] 8 [some (.ref 4), some (.int (nI h1)), some (.int (nI b1)), some (.int p), some (.int d)] [.int (nI b1)] S rfl ⟨by decide, by decide, rfl⟩ trivial ?_
              refine tf_cS hx ftX10_pace (nx := 11) (As := [.int (nI b1)]) (rest := []) (st2 := [.int (if ¬ (nI b1) < 0 ∧ ¬ 4 ≤ (nI b1) then 0 else 1)]) (c_noBoard (nI b1)) rfl lX10_61 rfl ⟨rfl, by decide, by decide, by decide, rfl, rfl⟩ ?_
              rw [if_pos c1]
              refine tf_go hx ftX10_pace 1 [true] 20 [some (.ref 4), some (.int (nI h1)), some (.int (nI b1)), some (.int p), some (.int d)] [] S rfl ⟨by decide, by decide, rfl⟩ ⟨trivial, (by decide)⟩ ?_
              refine tf_go hx ftX10_pace 2 [] 22 [some (.ref 4), some (.int (nI h1)), some (.int (nI b1)), some (.int p), some (.int d)] [.int 1, .int p] S rfl ⟨by decide, by decide, rfl⟩ trivial ?_
              refine tf_go hx ftX10_pace 1 [false] 25 [some (.ref 4), some (.int (nI h1)), some (.int (nI b1)), some (.int p), some (.int d)] [] S rfl ⟨by decide, by decide, rfl⟩ ⟨trivial, e1⟩ ?_
              refine tf_go hx ftX10_pace 1 [] 27 [some (.ref 4), some (.int (nI h1)), some (.int (nI b1)), some (.int p), some (.int d)] [.int d] S rfl ⟨by decide, by decide, rfl⟩ trivial ?_
              refine tf_go hx ftX10_pace 1 [true] 37 [some (.ref 4), some (.int (nI h1)), some (.int (nI b1)), some (.int p), some (.int d)] [] S rfl ⟨by decide, by decide, rfl⟩ ⟨trivial, (Int32.not_lt.mp e2)⟩ ?_
              refine tf_go hx ftX10_pace 2 [] 40 [some (.ref 4), some (.int (nI h1)), some (.int (nI b1)), some (.int p), some (.int d)] [.int 9, .int p] S rfl ⟨by decide, by decide, rfl⟩ trivial ?_
              refine tf_go hx ftX10_pace 1 [false] 43 [some (.ref 4), some (.int (nI h1)), some (.int (nI b1)), some (.int p), some (.int d)] [] S rfl ⟨by decide, by decide, rfl⟩ ⟨trivial, e3⟩ ?_
              refine tf_go hx ftX10_pace 2 [] 48 [some (.ref 4), some (.int (nI h1)), some (.int (nI b1)), some (.int p), some (.int d)] [.int 9999, .int d] S rfl ⟨by decide, by decide, rfl⟩ trivial ?_
              refine tf_go hx ftX10_pace 1 [false] 51 [some (.ref 4), some (.int (nI h1)), some (.int (nI b1)), some (.int p), some (.int d)] [] S rfl ⟨by decide, by decide, rfl⟩ ⟨trivial, (Int32.not_le.mpr e4)⟩ ?_
              refine tf_go hx ftX10_pace 2 [] 54 [some (.ref 4), some (.int (nI h1)), some (.int (nI b1)), some (.int p), some (.int d)] [.int (-6), .ref 4] S rfl ⟨by decide, by decide, rfl⟩ trivial ?_
              refine tf_cV hx ftX10_pace (nx := 57) (As := [.int (-6)]) (rest := []) (st2 := [.int (-6)]) (n_ref6) rfl lX10_50 (by first | assumption | rfl | decide) rfl ⟨rfl, by decide, by decide, by decide, rfl, rfl⟩ ?_
              exact tf_ret ftX10_pace hR rfl ⟨by decide, by decide⟩ rfl rfl rfl
            · rw [if_neg (by rintro (h | h); exact e3 h; exact e4 h)]
              obtain ⟨p1, p1_le, p1_eq⟩ := nI_of2 (M := 9) (n := 9) (x := p) (by decide) (fun h => e1 (Int32.lt_trans h (by decide))) (Int32.not_lt.mp e3)
              have p1_cl : p.toNatClampNeg = p1 := by rw [p1_eq]; exact tf_cl_nI (by omega)
              try rw [p1_cl]
              subst p1_eq
              obtain ⟨d1, d1_le, d1_eq⟩ := nI_of2 (M := 9999) (n := 9999) (x := d) (by decide) (e2) (Int32.not_lt.mp e4)
              have d1_cl : d.toNatClampNeg = d1 := by rw [d1_eq]; exact tf_cl_nI (by omega)
              try rw [d1_cl]
              subst d1_eq
              have p1_ge : 1 ≤ p1 := Nat.not_lt.mp (fun h => e1 (tf_ltT (a := p1) (b := 1) rfl rfl h (by omega) (by omega)))
              refine ⟨tf_lx (tf_px S A.1) A.1 b1, tf_Fn_of (own := RX10) false ⟨by decide, rfl, by decide⟩ (Nat.le_of_ble_eq_true rfl) trivial (fun x hx hR => ?_), cs_sx hA hC (tf_sx_tr tf_sx_px tf_sx_lx), fc_sx (tf_sx_tr tf_sx_px tf_sx_lx)⟩
              show tf_K x 0 0 (tf_GG N) S 0 [some (.ref 4), some (.int (nI h1)), some (.int (nI b1)), some (.int (nI p1)), some (.int (nI d1))] []
              refine tf_go hx ftX10_pace 1 [] 1 [some (.ref 4), some (.int (nI h1)), some (.int (nI b1)), some (.int (nI p1)), some (.int (nI d1))] [.int (nI h1)] S rfl ⟨by decide, by decide, rfl⟩ trivial ?_
              refine tf_cS hx ftX10_pace (nx := 4) (As := [.int (nI h1)]) (rest := []) (st2 := [.int (if ¬ (nI h1) < 0 ∧ ¬ 4 ≤ (nI h1) then 0 else 1)]) (c_noHand (nI h1)) rfl lX10_122 rfl ⟨rfl, by decide, by decide, by decide, rfl, rfl⟩ ?_
              rw [if_pos c0]
              refine tf_go hx ftX10_pace 1 [false] 7 [some (.ref 4), some (.int (nI h1)), some (.int (nI b1)), some (.int (nI p1)), some (.int (nI d1))] [] S rfl ⟨by decide, by decide, rfl⟩ ⟨trivial, (by decide)⟩ ?_
              refine tf_go hx ftX10_pace 1 [] 8 [some (.ref 4), some (.int (nI h1)), some (.int (nI b1)), some (.int (nI p1)), some (.int (nI d1))] [.int (nI b1)] S rfl ⟨by decide, by decide, rfl⟩ trivial ?_
              refine tf_cS hx ftX10_pace (nx := 11) (As := [.int (nI b1)]) (rest := []) (st2 := [.int (if ¬ (nI b1) < 0 ∧ ¬ 4 ≤ (nI b1) then 0 else 1)]) (c_noBoard (nI b1)) rfl lX10_61 rfl ⟨rfl, by decide, by decide, by decide, rfl, rfl⟩ ?_
              rw [if_pos c1]
              refine tf_go hx ftX10_pace 1 [true] 20 [some (.ref 4), some (.int (nI h1)), some (.int (nI b1)), some (.int (nI p1)), some (.int (nI d1))] [] S rfl ⟨by decide, by decide, rfl⟩ ⟨trivial, (by decide)⟩ ?_
              refine tf_go hx ftX10_pace 2 [] 22 [some (.ref 4), some (.int (nI h1)), some (.int (nI b1)), some (.int (nI p1)), some (.int (nI d1))] [.int 1, .int (nI p1)] S rfl ⟨by decide, by decide, rfl⟩ trivial ?_
              refine tf_go hx ftX10_pace 1 [false] 25 [some (.ref 4), some (.int (nI h1)), some (.int (nI b1)), some (.int (nI p1)), some (.int (nI d1))] [] S rfl ⟨by decide, by decide, rfl⟩ ⟨trivial, e1⟩ ?_
              refine tf_go hx ftX10_pace 1 [] 27 [some (.ref 4), some (.int (nI h1)), some (.int (nI b1)), some (.int (nI p1)), some (.int (nI d1))] [.int (nI d1)] S rfl ⟨by decide, by decide, rfl⟩ trivial ?_
              refine tf_go hx ftX10_pace 1 [true] 37 [some (.ref 4), some (.int (nI h1)), some (.int (nI b1)), some (.int (nI p1)), some (.int (nI d1))] [] S rfl ⟨by decide, by decide, rfl⟩ ⟨trivial, (Int32.not_lt.mp e2)⟩ ?_
              refine tf_go hx ftX10_pace 2 [] 40 [some (.ref 4), some (.int (nI h1)), some (.int (nI b1)), some (.int (nI p1)), some (.int (nI d1))] [.int 9, .int (nI p1)] S rfl ⟨by decide, by decide, rfl⟩ trivial ?_
              refine tf_go hx ftX10_pace 1 [false] 43 [some (.ref 4), some (.int (nI h1)), some (.int (nI b1)), some (.int (nI p1)), some (.int (nI d1))] [] S rfl ⟨by decide, by decide, rfl⟩ ⟨trivial, e3⟩ ?_
              refine tf_go hx ftX10_pace 2 [] 48 [some (.ref 4), some (.int (nI h1)), some (.int (nI b1)), some (.int (nI p1)), some (.int (nI d1))] [.int 9999, .int (nI d1)] S rfl ⟨by decide, by decide, rfl⟩ trivial ?_
              refine tf_go hx ftX10_pace 1 [true] 58 [some (.ref 4), some (.int (nI h1)), some (.int (nI b1)), some (.int (nI p1)), some (.int (nI d1))] [] S rfl ⟨by decide, by decide, rfl⟩ ⟨trivial, (Int32.not_lt.mp e4)⟩ ?_
              refine tf_go hx ftX10_pace 5 [] 63 [some (.ref 4), some (.int (nI h1)), some (.int (nI b1)), some (.int (nI p1)), some (.int (nI d1))] [.int 0, .int (nI b1), .int (nI h1), .ref 4, .ref 4] S rfl ⟨by decide, by decide, rfl⟩ trivial ?_
              refine tf_cV hx ftX10_pace (nx := 66) (As := [.int (nI h1), .int (nI b1), .int 0]) (rest := [.ref 4]) (st2 := [.int (nI (tf_tm A.1 h1 b1 0)), .ref 4]) (n_time hS h1j hg hb h1_lt b1_lt (by decide)) rfl lX10_159 (by first | assumption | rfl | decide) rfl ⟨rfl, by decide, by decide, by decide, rfl, rfl⟩ ?_
              refine tf_go hx ftX10_pace 2 [] 69 [some (.ref 4), some (.int (nI h1)), some (.int (nI b1)), some (.int (nI p1)), some (.int (nI d1))] [.int (nI d1), .int (nI p1), .int (nI (tf_tm A.1 h1 b1 0)), .ref 4] (tf_lx (tf_px S A.1) A.1 b1) rfl ⟨by decide, by decide, rfl⟩ trivial ?_
              refine tf_cV hx ftX10_pace (nx := 72) (As := [.int (nI (tf_tm A.1 h1 b1 0)), .int (nI p1), .int (nI d1)]) (rest := []) (st2 := [.int (nI (tf_pc A.1 h1 b1 p1 d1))]) (n_pace (nw_st hS hg (tf_sx_tr tf_sx_px tf_sx_lx)) (nw_1 h1j (tf_sx_tr tf_sx_px tf_sx_lx)) hg hb (tf_tm_le hg h1_lt) p1_ge (by omega) (by omega)) rfl lX10_204 (by first | assumption | rfl | decide) rfl ⟨rfl, by decide, by decide, by decide, rfl, rfl⟩ ?_
              exact tf_ret ftX10_pace hR rfl ⟨by decide, by decide⟩ rfl rfl rfl
    · rw [if_neg (fun h => c1 h.2)]
      refine ⟨tf_set S 124 1 (S 124 1 + 1), tf_Fn_of (own := RX10) false ⟨by decide, rfl, by decide⟩ (Nat.le_of_ble_eq_true rfl) trivial (fun x hx hR => ?_), cs_ref hA hC 1, fc_set (by omega)⟩
      show tf_K x 0 0 (tf_GG N) S 0 [some (.ref 4), some (.int h), some (.int b), some (.int p), some (.int d)] []
      refine tf_go hx ftX10_pace 1 [] 1 [some (.ref 4), some (.int h), some (.int b), some (.int p), some (.int d)] [.int h] S rfl ⟨by decide, by decide, rfl⟩ trivial ?_
      refine tf_cS hx ftX10_pace (nx := 4) (As := [.int h]) (rest := []) (st2 := [.int (if ¬ h < 0 ∧ ¬ 4 ≤ h then 0 else 1)]) (c_noHand h) rfl lX10_122 rfl ⟨rfl, by decide, by decide, by decide, rfl, rfl⟩ ?_
      rw [if_pos c0]
      refine tf_go hx ftX10_pace 1 [false] 7 [some (.ref 4), some (.int h), some (.int b), some (.int p), some (.int d)] [] S rfl ⟨by decide, by decide, rfl⟩ ⟨trivial, (by decide)⟩ ?_
      refine tf_go hx ftX10_pace 1 [] 8 [some (.ref 4), some (.int h), some (.int b), some (.int p), some (.int d)] [.int b] S rfl ⟨by decide, by decide, rfl⟩ trivial ?_
      refine tf_cS hx ftX10_pace (nx := 11) (As := [.int b]) (rest := []) (st2 := [.int (if ¬ b < 0 ∧ ¬ 4 ≤ b then 0 else 1)]) (c_noBoard b) rfl lX10_61 rfl ⟨rfl, by decide, by decide, by decide, rfl, rfl⟩ ?_
      rw [if_neg c1]
      refine tf_go hx ftX10_pace 1 [false] 14 [some (.ref 4), some (.int h), some (.int b), some (.int p), some (.int d)] [] S rfl ⟨by decide, by decide, rfl⟩ ⟨trivial, (by decide)⟩ ?_
      refine tf_go hx ftX10_pace 2 [] 16 [some (.ref 4), some (.int h), some (.int b), some (.int p), some (.int d)] [.int (-1), .ref 4] S rfl ⟨by decide, by decide, rfl⟩ trivial ?_
      refine tf_cV hx ftX10_pace (nx := 19) (As := [.int (-1)]) (rest := []) (st2 := [.int (-1)]) (n_ref1) rfl lX10_50 (by first | assumption | rfl | decide) rfl ⟨rfl, by decide, by decide, by decide, rfl, rfl⟩ ?_
      exact tf_ret ftX10_pace hR rfl ⟨by decide, by decide⟩ rfl rfl rfl
  · rw [if_neg (fun h => c0 h.1)]
    refine ⟨tf_set S 124 1 (S 124 1 + 1), tf_Fn_of (own := RX10) false ⟨by decide, rfl, by decide⟩ (Nat.le_of_ble_eq_true rfl) trivial (fun x hx hR => ?_), cs_ref hA hC 1, fc_set (by omega)⟩
    show tf_K x 0 0 (tf_GG N) S 0 [some (.ref 4), some (.int h), some (.int b), some (.int p), some (.int d)] []
    refine tf_go hx ftX10_pace 1 [] 1 [some (.ref 4), some (.int h), some (.int b), some (.int p), some (.int d)] [.int h] S rfl ⟨by decide, by decide, rfl⟩ trivial ?_
    refine tf_cS hx ftX10_pace (nx := 4) (As := [.int h]) (rest := []) (st2 := [.int (if ¬ h < 0 ∧ ¬ 4 ≤ h then 0 else 1)]) (c_noHand h) rfl lX10_122 rfl ⟨rfl, by decide, by decide, by decide, rfl, rfl⟩ ?_
    rw [if_neg c0]
    refine tf_go hx ftX10_pace 1 [true] 14 [some (.ref 4), some (.int h), some (.int b), some (.int p), some (.int d)] [] S rfl ⟨by decide, by decide, rfl⟩ ⟨trivial, (by decide)⟩ ?_
    refine tf_go hx ftX10_pace 2 [] 16 [some (.ref 4), some (.int h), some (.int b), some (.int p), some (.int d)] [.int (-1), .ref 4] S rfl ⟨by decide, by decide, rfl⟩ trivial ?_
    refine tf_cV hx ftX10_pace (nx := 19) (As := [.int (-1)]) (rest := []) (st2 := [.int (-1)]) (n_ref1) rfl lX10_50 (by first | assumption | rfl | decide) rfl ⟨rfl, by decide, by decide, by decide, rfl, rfl⟩ ?_
    exact tf_ret ftX10_pace hR rfl ⟨by decide, by decide⟩ rfl rfl rfl

set_option maxHeartbeats 2000000 in
theorem c_soonest {N : Nat} {S : tf_Sg} {A : tf_A} (h b d : Int32) (hA : tf_okA A) (hC : tf_cs S A)  : tf_cpq mX10_soonest 7 N S [.ref 4, .int h, .int b, .int d] (s_soonest A h b d) := by
  obtain ⟨hg, hb, hA3, hA4, hA5, hA6⟩ := id hA
  obtain ⟨h1j, hS, hK5, ⟨hT1, hT2⟩, hRf, hIm⟩ := id hC
  obtain ⟨⟨g1, g2, g3, g4⟩, g5, g6, g7, g8, g9, g10, g11⟩ := id hg
  unfold s_soonest
  by_cases c0 : ¬ h < 0 ∧ ¬ 4 ≤ h
  · by_cases c1 : ¬ b < 0 ∧ ¬ 4 ≤ b
    · rw [if_pos ⟨c0, c1⟩]
      obtain ⟨h1, h1_lt, h1_eq, h1_cl⟩ := tf_ok_nI (N := 4) (show tf_ok h _ from c0) rfl (by decide)
      try rw [h1_cl]
      obtain ⟨b1, b1_lt, b1_eq, b1_cl⟩ := tf_ok_nI (N := 4) (show tf_ok b _ from c1) rfl (by decide)
      try rw [b1_cl]
      subst h1_eq
      subst b1_eq
      by_cases e1 : ¬ 0 ≤ d
      · rw [if_pos e1]
        refine ⟨tf_set S 124 4 (S 124 4 + 1), tf_Fn_of (own := RX10) false ⟨by decide, rfl, by decide⟩ (Nat.le_of_ble_eq_true rfl) trivial (fun x hx hR => ?_), cs_ref hA hC 4, fc_set (by omega)⟩
        show tf_K x 0 0 (tf_GG N) S 0 [some (.ref 4), some (.int (nI h1)), some (.int (nI b1)), some (.int d), none, none, none, none, none] []
        refine tf_go hx ftX10_soonest 1 [] 1 [some (.ref 4), some (.int (nI h1)), some (.int (nI b1)), some (.int d), none, none, none, none, none] [.int (nI h1)] S rfl ⟨by decide, by decide, rfl⟩ trivial ?_
        refine tf_cS hx ftX10_soonest (nx := 4) (As := [.int (nI h1)]) (rest := []) (st2 := [.int (if ¬ (nI h1) < 0 ∧ ¬ 4 ≤ (nI h1) then 0 else 1)]) (c_noHand (nI h1)) rfl lX10_122 rfl ⟨rfl, by decide, by decide, by decide, rfl, rfl⟩ ?_
        rw [if_pos c0]
        refine tf_go hx ftX10_soonest 1 [false] 7 [some (.ref 4), some (.int (nI h1)), some (.int (nI b1)), some (.int d), none, none, none, none, none] [] S rfl ⟨by decide, by decide, rfl⟩ ⟨trivial, (by decide)⟩ ?_
        refine tf_go hx ftX10_soonest 1 [] 8 [some (.ref 4), some (.int (nI h1)), some (.int (nI b1)), some (.int d), none, none, none, none, none] [.int (nI b1)] S rfl ⟨by decide, by decide, rfl⟩ trivial ?_
        refine tf_cS hx ftX10_soonest (nx := 11) (As := [.int (nI b1)]) (rest := []) (st2 := [.int (if ¬ (nI b1) < 0 ∧ ¬ 4 ≤ (nI b1) then 0 else 1)]) (c_noBoard (nI b1)) rfl lX10_61 rfl ⟨rfl, by decide, by decide, by decide, rfl, rfl⟩ ?_
        rw [if_pos c1]
        refine tf_go hx ftX10_soonest 1 [true] 20 [some (.ref 4), some (.int (nI h1)), some (.int (nI b1)), some (.int d), none, none, none, none, none] [] S rfl ⟨by decide, by decide, rfl⟩ ⟨trivial, (by decide)⟩ ?_
        refine tf_go hx ftX10_soonest 1 [] 21 [some (.ref 4), some (.int (nI h1)), some (.int (nI b1)), some (.int d), none, none, none, none, none] [.int d] S rfl ⟨by decide, by decide, rfl⟩ trivial ?_
        refine tf_go hx ftX10_soonest 1 [false] 24 [some (.ref 4), some (.int (nI h1)), some (.int (nI b1)), some (.int d), none, none, none, none, none] [] S rfl ⟨by decide, by decide, rfl⟩ ⟨trivial, e1⟩ ?_
        refine tf_go hx ftX10_soonest 2 [] 27 [some (.ref 4), some (.int (nI h1)), some (.int (nI b1)), some (.int d), none, none, none, none, none] [.int (-4), .ref 4] S rfl ⟨by decide, by decide, rfl⟩ trivial ?_
        refine tf_cV hx ftX10_soonest (nx := 30) (As := [.int (-4)]) (rest := []) (st2 := [.int (-4)]) (n_ref4) rfl lX10_50 (by first | assumption | rfl | decide) rfl ⟨rfl, by decide, by decide, by decide, rfl, rfl⟩ ?_
        exact tf_ret ftX10_soonest hR rfl ⟨by decide, by decide⟩ rfl rfl rfl
      · by_cases e2 : ¬ d ≤ 9999
        · rw [if_neg e1, if_pos e2]
          refine ⟨tf_set S 124 6 (S 124 6 + 1), tf_Fn_of (own := RX10) false ⟨by decide, rfl, by decide⟩ (Nat.le_of_ble_eq_true rfl) trivial (fun x hx hR => ?_), cs_ref hA hC 6, fc_set (by omega)⟩
          show tf_K x 0 0 (tf_GG N) S 0 [some (.ref 4), some (.int (nI h1)), some (.int (nI b1)), some (.int d), none, none, none, none, none] []
          refine tf_go hx ftX10_soonest 1 [] 1 [some (.ref 4), some (.int (nI h1)), some (.int (nI b1)), some (.int d), none, none, none, none, none] [.int (nI h1)] S rfl ⟨by decide, by decide, rfl⟩ trivial ?_
          refine tf_cS hx ftX10_soonest (nx := 4) (As := [.int (nI h1)]) (rest := []) (st2 := [.int (if ¬ (nI h1) < 0 ∧ ¬ 4 ≤ (nI h1) then 0 else 1)]) (c_noHand (nI h1)) rfl lX10_122 rfl ⟨rfl, by decide, by decide, by decide, rfl, rfl⟩ ?_
          rw [if_pos c0]
          refine tf_go hx ftX10_soonest 1 [false] 7 [some (.ref 4), some (.int (nI h1)), some (.int (nI b1)), some (.int d), none, none, none, none, none] [] S rfl ⟨by decide, by decide, rfl⟩ ⟨trivial, (by decide)⟩ ?_
          refine tf_go hx ftX10_soonest 1 [] 8 [some (.ref 4), some (.int (nI h1)), some (.int (nI b1)), some (.int d), none, none, none, none, none] [.int (nI b1)] S rfl ⟨by decide, by decide, rfl⟩ trivial ?_
          refine tf_cS hx ftX10_soonest (nx := 11) (As := [.int (nI b1)]) (rest := []) (st2 := [.int (if ¬ (nI b1) < 0 ∧ ¬ 4 ≤ (nI b1) then 0 else 1)]) (c_noBoard (nI b1)) rfl lX10_61 rfl ⟨rfl, by decide, by decide, by decide, rfl, rfl⟩ ?_
          rw [if_pos c1]
          refine tf_go hx ftX10_soonest 1 [true] 20 [some (.ref 4), some (.int (nI h1)), some (.int (nI b1)), some (.int d), none, none, none, none, none] [] S rfl ⟨by decide, by decide, rfl⟩ ⟨trivial, (by decide)⟩ ?_
          refine tf_go hx ftX10_soonest 1 [] 21 [some (.ref 4), some (.int (nI h1)), some (.int (nI b1)), some (.int d), none, none, none, none, none] [.int d] S rfl ⟨by decide, by decide, rfl⟩ trivial ?_
          refine tf_go hx ftX10_soonest 1 [true] 31 [some (.ref 4), some (.int (nI h1)), some (.int (nI b1)), some (.int d), none, none, none, none, none] [] S rfl ⟨by decide, by decide, rfl⟩ ⟨trivial, (Classical.not_not.mp e1)⟩ ?_
          refine tf_go hx ftX10_soonest 2 [] 35 [some (.ref 4), some (.int (nI h1)), some (.int (nI b1)), some (.int d), none, none, none, none, none] [.int 9999, .int d] S rfl ⟨by decide, by decide, rfl⟩ trivial ?_
          refine tf_go hx ftX10_soonest 1 [false] 38 [some (.ref 4), some (.int (nI h1)), some (.int (nI b1)), some (.int d), none, none, none, none, none] [] S rfl ⟨by decide, by decide, rfl⟩ ⟨trivial, e2⟩ ?_
          refine tf_go hx ftX10_soonest 2 [] 41 [some (.ref 4), some (.int (nI h1)), some (.int (nI b1)), some (.int d), none, none, none, none, none] [.int (-6), .ref 4] S rfl ⟨by decide, by decide, rfl⟩ trivial ?_
          refine tf_cV hx ftX10_soonest (nx := 44) (As := [.int (-6)]) (rest := []) (st2 := [.int (-6)]) (n_ref6) rfl lX10_50 (by first | assumption | rfl | decide) rfl ⟨rfl, by decide, by decide, by decide, rfl, rfl⟩ ?_
          exact tf_ret ftX10_soonest hR rfl ⟨by decide, by decide⟩ rfl rfl rfl
        · rw [if_neg e1, if_neg e2]
          obtain ⟨d1, d1_le, d1_eq⟩ := nI_of2 (M := 9999) (n := 9999) (x := d) (by decide) (fun h => e1 (fun h2 => absurd h (Int32.not_lt.mpr h2))) (Classical.not_not.mp e2)
          have d1_cl : d.toNatClampNeg = d1 := by rw [d1_eq]; exact tf_cl_nI (by omega)
          try rw [d1_cl]
          subst d1_eq
          have pl : ∀ p, p ≤ 9 → tf_pc A.1 h1 b1 p d1 ≤ 480000 + 32 * 9999 := fun p hp => tf_pc_le hg h1_lt hp d1_le
          have np : ∀ p, 1 ≤ p → p ≤ 9 → tf_Fn mX10_allAtPace 2 0 0 (tf_GG N) (tf_lx (tf_px S A.1) A.1 b1) [.ref 4, .int (nI (tf_tm A.1 h1 b1 0)), .int (nI p), .int (nI d1)] (tf_GG N) (tf_lx (tf_px S A.1) A.1 b1) (some (.int (nI (tf_pc A.1 h1 b1 p d1)))) := fun p h2 h3 => n_pace (nw_st hS hg (tf_sx_tr tf_sx_px tf_sx_lx)) (nw_1 h1j (tf_sx_tr tf_sx_px tf_sx_lx)) hg hb (tf_tm_le hg h1_lt) h2 h3 d1_le
          refine ⟨tf_lx (tf_px S A.1) A.1 b1, tf_Fn_of (own := RX10) false ⟨by decide, rfl, by decide⟩ (Nat.le_of_ble_eq_true rfl) trivial (fun x hx hR => ?_), cs_sx hA hC (tf_sx_tr tf_sx_px tf_sx_lx), fc_sx (tf_sx_tr tf_sx_px tf_sx_lx)⟩
          show tf_K x 0 0 (tf_GG N) S 0 [some (.ref 4), some (.int (nI h1)), some (.int (nI b1)), some (.int (nI d1)), none, none, none, none, none] []
          refine tf_go hx ftX10_soonest 1 [] 1 [some (.ref 4), some (.int (nI h1)), some (.int (nI b1)), some (.int (nI d1)), none, none, none, none, none] [.int (nI h1)] S rfl ⟨by decide, by decide, rfl⟩ trivial ?_
          refine tf_cS hx ftX10_soonest (nx := 4) (As := [.int (nI h1)]) (rest := []) (st2 := [.int (if ¬ (nI h1) < 0 ∧ ¬ 4 ≤ (nI h1) then 0 else 1)]) (c_noHand (nI h1)) rfl lX10_122 rfl ⟨rfl, by decide, by decide, by decide, rfl, rfl⟩ ?_
          rw [if_pos c0]
          refine tf_go hx ftX10_soonest 1 [false] 7 [some (.ref 4), some (.int (nI h1)), some (.int (nI b1)), some (.int (nI d1)), none, none, none, none, none] [] S rfl ⟨by decide, by decide, rfl⟩ ⟨trivial, (by decide)⟩ ?_
          refine tf_go hx ftX10_soonest 1 [] 8 [some (.ref 4), some (.int (nI h1)), some (.int (nI b1)), some (.int (nI d1)), none, none, none, none, none] [.int (nI b1)] S rfl ⟨by decide, by decide, rfl⟩ trivial ?_
          refine tf_cS hx ftX10_soonest (nx := 11) (As := [.int (nI b1)]) (rest := []) (st2 := [.int (if ¬ (nI b1) < 0 ∧ ¬ 4 ≤ (nI b1) then 0 else 1)]) (c_noBoard (nI b1)) rfl lX10_61 rfl ⟨rfl, by decide, by decide, by decide, rfl, rfl⟩ ?_
          rw [if_pos c1]
          refine tf_go hx ftX10_soonest 1 [true] 20 [some (.ref 4), some (.int (nI h1)), some (.int (nI b1)), some (.int (nI d1)), none, none, none, none, none] [] S rfl ⟨by decide, by decide, rfl⟩ ⟨trivial, (by decide)⟩ ?_
          refine tf_go hx ftX10_soonest 1 [] 21 [some (.ref 4), some (.int (nI h1)), some (.int (nI b1)), some (.int (nI d1)), none, none, none, none, none] [.int (nI d1)] S rfl ⟨by decide, by decide, rfl⟩ trivial ?_
          refine tf_go hx ftX10_soonest 1 [true] 31 [some (.ref 4), some (.int (nI h1)), some (.int (nI b1)), some (.int (nI d1)), none, none, none, none, none] [] S rfl ⟨by decide, by decide, rfl⟩ ⟨trivial, (tf_leT (a := 0) (b := d1) (rfl : (0 : Int32) = nI 0) rfl (by omega) (by omega) (by omega))⟩ ?_
          refine tf_go hx ftX10_soonest 2 [] 35 [some (.ref 4), some (.int (nI h1)), some (.int (nI b1)), some (.int (nI d1)), none, none, none, none, none] [.int 9999, .int (nI d1)] S rfl ⟨by decide, by decide, rfl⟩ trivial ?_
          refine tf_go hx ftX10_soonest 1 [true] 45 [some (.ref 4), some (.int (nI h1)), some (.int (nI b1)), some (.int (nI d1)), none, none, none, none, none] [] S rfl ⟨by decide, by decide, rfl⟩ ⟨trivial, (tf_leT (a := d1) (b := 9999) rfl (rfl : (9999 : Int32) = nI 9999) (by omega) (by omega) (by omega))⟩ ?_
          refine tf_go hx ftX10_soonest 4 [] 49 [some (.ref 4), some (.int (nI h1)), some (.int (nI b1)), some (.int (nI d1)), none, none, none, none, none] [.int 0, .int (nI b1), .int (nI h1), .ref 4] S rfl ⟨by decide, by decide, rfl⟩ trivial ?_
          refine tf_cV hx ftX10_soonest (nx := 52) (As := [.int (nI h1), .int (nI b1), .int 0]) (rest := []) (st2 := [.int (nI (tf_tm A.1 h1 b1 0))]) (n_time hS h1j hg hb h1_lt b1_lt (by decide)) rfl lX10_159 (by first | assumption | rfl | decide) rfl ⟨rfl, by decide, by decide, by decide, rfl, rfl⟩ ?_
          refine tf_go hx ftX10_soonest 1 [] 54 [some (.ref 4), some (.int (nI h1)), some (.int (nI b1)), some (.int (nI d1)), some (.int (nI (tf_tm A.1 h1 b1 0))), none, none, none, none] [] (tf_lx (tf_px S A.1) A.1 b1) rfl ⟨by decide, by decide, rfl⟩ trivial ?_
          refine tf_go hx ftX10_soonest 2 [] 57 [some (.ref 4), some (.int (nI h1)), some (.int (nI b1)), some (.int (nI d1)), some (.int (nI (tf_tm A.1 h1 b1 0))), some (.int 1), none, none, none] [] (tf_lx (tf_px S A.1) A.1 b1) rfl ⟨by decide, by decide, rfl⟩ trivial ?_
          refine tf_go hx ftX10_soonest 4 [] 63 [some (.ref 4), some (.int (nI h1)), some (.int (nI b1)), some (.int (nI d1)), some (.int (nI (tf_tm A.1 h1 b1 0))), some (.int 1), none, none, none] [.int (nI d1), .int 1, .int (nI (tf_tm A.1 h1 b1 0)), .ref 4] (tf_lx (tf_px S A.1) A.1 b1) rfl ⟨by decide, by decide, rfl⟩ trivial ?_
          refine tf_cV hx ftX10_soonest (nx := 66) (As := [.int (nI (tf_tm A.1 h1 b1 0)), .int 1, .int (nI d1)]) (rest := []) (st2 := [.int (nI (tf_pc A.1 h1 b1 1 d1))]) (np 1 (by decide) (by decide)) rfl lX10_204 (by first | assumption | rfl | decide) rfl ⟨rfl, by decide, by decide, by decide, rfl, rfl⟩ ?_
          refine tf_go hx ftX10_soonest 3 [] 71 [some (.ref 4), some (.int (nI h1)), some (.int (nI b1)), some (.int (nI d1)), some (.int (nI (tf_tm A.1 h1 b1 0))), some (.int 1), some (.int (nI (tf_pc A.1 h1 b1 1 d1))), some (.int 2), none] [] (tf_lx (tf_px S A.1) A.1 b1) rfl ⟨by decide, by decide, rfl⟩ trivial ?_
          refine tf_fgt [some (.ref 4), some (.int (nI h1)), some (.int (nI b1)), some (.int (nI d1)), some (.int (nI (tf_tm A.1 h1 b1 0))), some (.int 1), some (.int (nI (tf_pc A.1 h1 b1 1 d1))), some (.int 2), none] (by simp [tf_lss]) ?_
          have loop : ∀ (m k : Nat) (q : Nat), k + m = 10 → (tf_sn A.1 h1 b1 d1 m k q = tf_sn A.1 h1 b1 d1 8 2 1) → (q ≤ 9) → (1 ≤ k) → tf_K x 0 0 (tf_GG N) (tf_lx (tf_px S A.1) A.1 b1) 71 [some (.ref 4), some (.int (nI h1)), some (.int (nI b1)), some (.int (nI d1)), some (.int (nI (tf_tm A.1 h1 b1 0))), some (.int (nI q)), some (.int (nI (tf_pc A.1 h1 b1 q d1))), some (.int (nI k)), none] [] := by
            intro m
            induction m with
            | zero =>
              intro k q hk he hq hk2
              refine tf_go hx ftX10_soonest 2 [] 75 [some (.ref 4), some (.int (nI h1)), some (.int (nI b1)), some (.int (nI d1)), some (.int (nI (tf_tm A.1 h1 b1 0))), some (.int (nI q)), some (.int (nI (tf_pc A.1 h1 b1 q d1))), some (.int (nI k)), none] [.int 9, .int (nI k)] (tf_lx (tf_px S A.1) A.1 b1) rfl ⟨by decide, by decide, rfl⟩ trivial ?_
              refine tf_go hx ftX10_soonest 2 [true] 112 [some (.ref 4), some (.int (nI h1)), some (.int (nI b1)), some (.int (nI d1)), some (.int (nI (tf_tm A.1 h1 b1 0))), some (.int (nI q)), some (.int (nI (tf_pc A.1 h1 b1 q d1))), some (.int (nI k)), none] [.int (nI q)] (tf_lx (tf_px S A.1) A.1 b1) rfl ⟨by decide, by decide, rfl⟩ ⟨trivial, (tf_ltT (a := 9) (b := k) (rfl : (9 : Int32) = nI 9) rfl (by omega) (by omega) (by omega))⟩ ?_
              exact tf_ret ftX10_soonest hR rfl ⟨by decide, by decide⟩ rfl rfl (by rw [← he]; rfl)
            | succ m ih =>
              intro k q hk he hq hk2
              rw [tf_sn_s] at he
              have p1 := pl k (by omega)
              have p2 := pl q hq
              refine tf_go hx ftX10_soonest 2 [] 75 [some (.ref 4), some (.int (nI h1)), some (.int (nI b1)), some (.int (nI d1)), some (.int (nI (tf_tm A.1 h1 b1 0))), some (.int (nI q)), some (.int (nI (tf_pc A.1 h1 b1 q d1))), some (.int (nI k)), none] [.int 9, .int (nI k)] (tf_lx (tf_px S A.1) A.1 b1) rfl ⟨by decide, by decide, rfl⟩ trivial ?_
              refine tf_go hx ftX10_soonest 1 [false] 78 [some (.ref 4), some (.int (nI h1)), some (.int (nI b1)), some (.int (nI d1)), some (.int (nI (tf_tm A.1 h1 b1 0))), some (.int (nI q)), some (.int (nI (tf_pc A.1 h1 b1 q d1))), some (.int (nI k)), none] [] (tf_lx (tf_px S A.1) A.1 b1) rfl ⟨by decide, by decide, rfl⟩ ⟨trivial, (tf_ltF (a := 9) (b := k) (rfl : (9 : Int32) = nI 9) rfl (by omega) (by omega) (by omega))⟩ ?_
              refine tf_go hx ftX10_soonest 4 [] 84 [some (.ref 4), some (.int (nI h1)), some (.int (nI b1)), some (.int (nI d1)), some (.int (nI (tf_tm A.1 h1 b1 0))), some (.int (nI q)), some (.int (nI (tf_pc A.1 h1 b1 q d1))), some (.int (nI k)), none] [.int (nI d1), .int (nI k), .int (nI (tf_tm A.1 h1 b1 0)), .ref 4] (tf_lx (tf_px S A.1) A.1 b1) rfl ⟨by decide, by decide, rfl⟩ trivial ?_
              refine tf_cV hx ftX10_soonest (nx := 87) (As := [.int (nI (tf_tm A.1 h1 b1 0)), .int (nI k), .int (nI d1)]) (rest := []) (st2 := [.int (nI (tf_pc A.1 h1 b1 k d1))]) (np k hk2 (by omega)) rfl lX10_204 (by first | assumption | rfl | decide) rfl ⟨rfl, by decide, by decide, by decide, rfl, rfl⟩ ?_
              refine tf_go hx ftX10_soonest 1 [] 89 [some (.ref 4), some (.int (nI h1)), some (.int (nI b1)), some (.int (nI d1)), some (.int (nI (tf_tm A.1 h1 b1 0))), some (.int (nI q)), some (.int (nI (tf_pc A.1 h1 b1 q d1))), some (.int (nI k)), some (.int (nI (tf_pc A.1 h1 b1 k d1)))] [] (tf_lx (tf_px S A.1) A.1 b1) rfl ⟨by decide, by decide, rfl⟩ trivial ?_
              refine tf_go hx ftX10_soonest 2 [] 93 [some (.ref 4), some (.int (nI h1)), some (.int (nI b1)), some (.int (nI d1)), some (.int (nI (tf_tm A.1 h1 b1 0))), some (.int (nI q)), some (.int (nI (tf_pc A.1 h1 b1 q d1))), some (.int (nI k)), some (.int (nI (tf_pc A.1 h1 b1 k d1)))] [.int (nI (tf_pc A.1 h1 b1 q d1)), .int (nI (tf_pc A.1 h1 b1 k d1))] (tf_lx (tf_px S A.1) A.1 b1) rfl ⟨by decide, by decide, rfl⟩ trivial ?_
              by_cases e3 : tf_pc A.1 h1 b1 k d1 < tf_pc A.1 h1 b1 q d1
              · rw [if_pos e3] at he
                refine tf_go hx ftX10_soonest 7 [false] 71 [some (.ref 4), some (.int (nI h1)), some (.int (nI b1)), some (.int (nI d1)), some (.int (nI (tf_tm A.1 h1 b1 0))), some (.int (nI k)), some (.int (nI (tf_pc A.1 h1 b1 k d1))), some (.int ((nI k) + 1)), some (.int (nI (tf_pc A.1 h1 b1 k d1)))] [] (tf_lx (tf_px S A.1) A.1 b1) rfl ⟨by decide, by decide, rfl⟩ ⟨trivial, (tf_leF (a := (tf_pc A.1 h1 b1 q d1)) (b := (tf_pc A.1 h1 b1 k d1)) rfl rfl (by have := hb h1; omega) (by have := hb h1; omega) (by have := hb h1; omega))⟩ ?_
                rw [show ((nI k) + 1) = nI (k + 1) from (tf_add (a := k) (b := 1) rfl (rfl : (1 : Int32) = nI 1))]
                refine tf_fgt [some (.ref 4), some (.int (nI h1)), some (.int (nI b1)), some (.int (nI d1)), some (.int (nI (tf_tm A.1 h1 b1 0))), some (.int (nI k)), some (.int (nI (tf_pc A.1 h1 b1 k d1))), some (.int (nI (k + 1))), none] (by simp [tf_lss]) ?_
                exact ih (k + 1) k (by omega) he (by omega) (by omega)
              · rw [if_neg e3] at he
                refine tf_go hx ftX10_soonest 1 [true] 104 [some (.ref 4), some (.int (nI h1)), some (.int (nI b1)), some (.int (nI d1)), some (.int (nI (tf_tm A.1 h1 b1 0))), some (.int (nI q)), some (.int (nI (tf_pc A.1 h1 b1 q d1))), some (.int (nI k)), some (.int (nI (tf_pc A.1 h1 b1 k d1)))] [] (tf_lx (tf_px S A.1) A.1 b1) rfl ⟨by decide, by decide, rfl⟩ ⟨trivial, (tf_leT (a := (tf_pc A.1 h1 b1 q d1)) (b := (tf_pc A.1 h1 b1 k d1)) rfl rfl (by have := hb h1; omega) (by have := hb h1; omega) (by have := hb h1; omega))⟩ ?_
                refine tf_go hx ftX10_soonest 2 [] 71 [some (.ref 4), some (.int (nI h1)), some (.int (nI b1)), some (.int (nI d1)), some (.int (nI (tf_tm A.1 h1 b1 0))), some (.int (nI q)), some (.int (nI (tf_pc A.1 h1 b1 q d1))), some (.int ((nI k) + 1)), some (.int (nI (tf_pc A.1 h1 b1 k d1)))] [] (tf_lx (tf_px S A.1) A.1 b1) rfl ⟨by decide, by decide, rfl⟩ trivial ?_
                rw [show ((nI k) + 1) = nI (k + 1) from (tf_add (a := k) (b := 1) rfl (rfl : (1 : Int32) = nI 1))]
                refine tf_fgt [some (.ref 4), some (.int (nI h1)), some (.int (nI b1)), some (.int (nI d1)), some (.int (nI (tf_tm A.1 h1 b1 0))), some (.int (nI q)), some (.int (nI (tf_pc A.1 h1 b1 q d1))), some (.int (nI (k + 1))), none] (by simp [tf_lss]) ?_
                exact ih (k + 1) q (by omega) he hq (by omega)
          exact loop 8 2 1 rfl rfl (by omega) (by omega)
    · rw [if_neg (fun h => c1 h.2)]
      refine ⟨tf_set S 124 1 (S 124 1 + 1), tf_Fn_of (own := RX10) false ⟨by decide, rfl, by decide⟩ (Nat.le_of_ble_eq_true rfl) trivial (fun x hx hR => ?_), cs_ref hA hC 1, fc_set (by omega)⟩
      show tf_K x 0 0 (tf_GG N) S 0 [some (.ref 4), some (.int h), some (.int b), some (.int d), none, none, none, none, none] []
      refine tf_go hx ftX10_soonest 1 [] 1 [some (.ref 4), some (.int h), some (.int b), some (.int d), none, none, none, none, none] [.int h] S rfl ⟨by decide, by decide, rfl⟩ trivial ?_
      refine tf_cS hx ftX10_soonest (nx := 4) (As := [.int h]) (rest := []) (st2 := [.int (if ¬ h < 0 ∧ ¬ 4 ≤ h then 0 else 1)]) (c_noHand h) rfl lX10_122 rfl ⟨rfl, by decide, by decide, by decide, rfl, rfl⟩ ?_
      rw [if_pos c0]
      refine tf_go hx ftX10_soonest 1 [false] 7 [some (.ref 4), some (.int h), some (.int b), some (.int d), none, none, none, none, none] [] S rfl ⟨by decide, by decide, rfl⟩ ⟨trivial, (by decide)⟩ ?_
      refine tf_go hx ftX10_soonest 1 [] 8 [some (.ref 4), some (.int h), some (.int b), some (.int d), none, none, none, none, none] [.int b] S rfl ⟨by decide, by decide, rfl⟩ trivial ?_
      refine tf_cS hx ftX10_soonest (nx := 11) (As := [.int b]) (rest := []) (st2 := [.int (if ¬ b < 0 ∧ ¬ 4 ≤ b then 0 else 1)]) (c_noBoard b) rfl lX10_61 rfl ⟨rfl, by decide, by decide, by decide, rfl, rfl⟩ ?_
      rw [if_neg c1]
      refine tf_go hx ftX10_soonest 1 [false] 14 [some (.ref 4), some (.int h), some (.int b), some (.int d), none, none, none, none, none] [] S rfl ⟨by decide, by decide, rfl⟩ ⟨trivial, (by decide)⟩ ?_
      refine tf_go hx ftX10_soonest 2 [] 16 [some (.ref 4), some (.int h), some (.int b), some (.int d), none, none, none, none, none] [.int (-1), .ref 4] S rfl ⟨by decide, by decide, rfl⟩ trivial ?_
      refine tf_cV hx ftX10_soonest (nx := 19) (As := [.int (-1)]) (rest := []) (st2 := [.int (-1)]) (n_ref1) rfl lX10_50 (by first | assumption | rfl | decide) rfl ⟨rfl, by decide, by decide, by decide, rfl, rfl⟩ ?_
      exact tf_ret ftX10_soonest hR rfl ⟨by decide, by decide⟩ rfl rfl rfl
  · rw [if_neg (fun h => c0 h.1)]
    refine ⟨tf_set S 124 1 (S 124 1 + 1), tf_Fn_of (own := RX10) false ⟨by decide, rfl, by decide⟩ (Nat.le_of_ble_eq_true rfl) trivial (fun x hx hR => ?_), cs_ref hA hC 1, fc_set (by omega)⟩
    show tf_K x 0 0 (tf_GG N) S 0 [some (.ref 4), some (.int h), some (.int b), some (.int d), none, none, none, none, none] []
    refine tf_go hx ftX10_soonest 1 [] 1 [some (.ref 4), some (.int h), some (.int b), some (.int d), none, none, none, none, none] [.int h] S rfl ⟨by decide, by decide, rfl⟩ trivial ?_
    refine tf_cS hx ftX10_soonest (nx := 4) (As := [.int h]) (rest := []) (st2 := [.int (if ¬ h < 0 ∧ ¬ 4 ≤ h then 0 else 1)]) (c_noHand h) rfl lX10_122 rfl ⟨rfl, by decide, by decide, by decide, rfl, rfl⟩ ?_
    rw [if_neg c0]
    refine tf_go hx ftX10_soonest 1 [true] 14 [some (.ref 4), some (.int h), some (.int b), some (.int d), none, none, none, none, none] [] S rfl ⟨by decide, by decide, rfl⟩ ⟨trivial, (by decide)⟩ ?_
    refine tf_go hx ftX10_soonest 2 [] 16 [some (.ref 4), some (.int h), some (.int b), some (.int d), none, none, none, none, none] [.int (-1), .ref 4] S rfl ⟨by decide, by decide, rfl⟩ trivial ?_
    refine tf_cV hx ftX10_soonest (nx := 19) (As := [.int (-1)]) (rest := []) (st2 := [.int (-1)]) (n_ref1) rfl lX10_50 (by first | assumption | rfl | decide) rfl ⟨rfl, by decide, by decide, by decide, rfl, rfl⟩ ?_
    exact tf_ret ftX10_soonest hR rfl ⟨by decide, by decide⟩ rfl rfl rfl

set_option maxHeartbeats 2000000 in
theorem c_summer {N : Nat} {S : tf_Sg} {A : tf_A} (st ep ga : Int32) (hA : tf_okA A) (hC : tf_cs S A)  : tf_cpq mX10_summer 2 N S [.ref 4, .int st, .int ep, .int ga] (s_summer A st ep ga) := by
  obtain ⟨hg, hb, hA3, hA4, hA5, hA6⟩ := id hA
  obtain ⟨h1j, hS, hK5, ⟨hT1, hT2⟩, hRf, hIm⟩ := id hC
  obtain ⟨⟨g1, g2, g3, g4⟩, g5, g6, g7, g8, g9, g10, g11⟩ := id hg
  unfold s_summer
  by_cases e1 : st < 0
  · rw [if_pos (Or.inl e1)]
    refine ⟨tf_set S 124 4 (S 124 4 + 1), tf_Fn_of (own := RX10) false ⟨by decide, rfl, by decide⟩ (Nat.le_of_ble_eq_true rfl) trivial (fun x hx hR => ?_), cs_ref hA hC 4, fc_set (by omega)⟩
    show tf_K x 0 0 (tf_GG N) S 0 [some (.ref 4), some (.int st), some (.int ep), some (.int ga), none, none] []
    refine tf_go hx ftX10_summer 1 [] 1 [some (.ref 4), some (.int st), some (.int ep), some (.int ga), none, none] [.int st] S rfl ⟨by decide, by decide, rfl⟩ trivial ?_
    refine tf_go hx ftX10_summer 1 [true] 14 [some (.ref 4), some (.int st), some (.int ep), some (.int ga), none, none] [] S rfl ⟨by decide, by decide, rfl⟩ ⟨trivial, e1⟩ ?_
    refine tf_go hx ftX10_summer 2 [] 17 [some (.ref 4), some (.int st), some (.int ep), some (.int ga), none, none] [.int (-4), .ref 4] S rfl ⟨by decide, by decide, rfl⟩ trivial ?_
    refine tf_cV hx ftX10_summer (nx := 20) (As := [.int (-4)]) (rest := []) (st2 := [.int (-4)]) (n_ref4) rfl lX10_50 (by first | assumption | rfl | decide) rfl ⟨rfl, by decide, by decide, by decide, rfl, rfl⟩ ?_
    exact tf_ret ftX10_summer hR rfl ⟨by decide, by decide⟩ rfl rfl rfl
  · by_cases e2 : ep < 1
    · rw [if_pos (Or.inr (Or.inl e2))]
      refine ⟨tf_set S 124 4 (S 124 4 + 1), tf_Fn_of (own := RX10) false ⟨by decide, rfl, by decide⟩ (Nat.le_of_ble_eq_true rfl) trivial (fun x hx hR => ?_), cs_ref hA hC 4, fc_set (by omega)⟩
      show tf_K x 0 0 (tf_GG N) S 0 [some (.ref 4), some (.int st), some (.int ep), some (.int ga), none, none] []
      refine tf_go hx ftX10_summer 1 [] 1 [some (.ref 4), some (.int st), some (.int ep), some (.int ga), none, none] [.int st] S rfl ⟨by decide, by decide, rfl⟩ trivial ?_
      refine tf_go hx ftX10_summer 1 [false] 4 [some (.ref 4), some (.int st), some (.int ep), some (.int ga), none, none] [] S rfl ⟨by decide, by decide, rfl⟩ ⟨trivial, e1⟩ ?_
      refine tf_go hx ftX10_summer 2 [] 6 [some (.ref 4), some (.int st), some (.int ep), some (.int ga), none, none] [.int 1, .int ep] S rfl ⟨by decide, by decide, rfl⟩ trivial ?_
      refine tf_go hx ftX10_summer 1 [true] 14 [some (.ref 4), some (.int st), some (.int ep), some (.int ga), none, none] [] S rfl ⟨by decide, by decide, rfl⟩ ⟨trivial, e2⟩ ?_
      refine tf_go hx ftX10_summer 2 [] 17 [some (.ref 4), some (.int st), some (.int ep), some (.int ga), none, none] [.int (-4), .ref 4] S rfl ⟨by decide, by decide, rfl⟩ trivial ?_
      refine tf_cV hx ftX10_summer (nx := 20) (As := [.int (-4)]) (rest := []) (st2 := [.int (-4)]) (n_ref4) rfl lX10_50 (by first | assumption | rfl | decide) rfl ⟨rfl, by decide, by decide, by decide, rfl, rfl⟩ ?_
      exact tf_ret ftX10_summer hR rfl ⟨by decide, by decide⟩ rfl rfl rfl
    · by_cases e3 : ga < 1
      · rw [if_pos (Or.inr (Or.inr e3))]
        refine ⟨tf_set S 124 4 (S 124 4 + 1), tf_Fn_of (own := RX10) false ⟨by decide, rfl, by decide⟩ (Nat.le_of_ble_eq_true rfl) trivial (fun x hx hR => ?_), cs_ref hA hC 4, fc_set (by omega)⟩
        show tf_K x 0 0 (tf_GG N) S 0 [some (.ref 4), some (.int st), some (.int ep), some (.int ga), none, none] []
        refine tf_go hx ftX10_summer 1 [] 1 [some (.ref 4), some (.int st), some (.int ep), some (.int ga), none, none] [.int st] S rfl ⟨by decide, by decide, rfl⟩ trivial ?_
        refine tf_go hx ftX10_summer 1 [false] 4 [some (.ref 4), some (.int st), some (.int ep), some (.int ga), none, none] [] S rfl ⟨by decide, by decide, rfl⟩ ⟨trivial, e1⟩ ?_
        refine tf_go hx ftX10_summer 2 [] 6 [some (.ref 4), some (.int st), some (.int ep), some (.int ga), none, none] [.int 1, .int ep] S rfl ⟨by decide, by decide, rfl⟩ trivial ?_
        refine tf_go hx ftX10_summer 1 [false] 9 [some (.ref 4), some (.int st), some (.int ep), some (.int ga), none, none] [] S rfl ⟨by decide, by decide, rfl⟩ ⟨trivial, e2⟩ ?_
        refine tf_go hx ftX10_summer 2 [] 11 [some (.ref 4), some (.int st), some (.int ep), some (.int ga), none, none] [.int 1, .int ga] S rfl ⟨by decide, by decide, rfl⟩ trivial ?_
        refine tf_go hx ftX10_summer 1 [false] 14 [some (.ref 4), some (.int st), some (.int ep), some (.int ga), none, none] [] S rfl ⟨by decide, by decide, rfl⟩ ⟨trivial, (Int32.not_le.mpr e3)⟩ ?_
        refine tf_go hx ftX10_summer 2 [] 17 [some (.ref 4), some (.int st), some (.int ep), some (.int ga), none, none] [.int (-4), .ref 4] S rfl ⟨by decide, by decide, rfl⟩ trivial ?_
        refine tf_cV hx ftX10_summer (nx := 20) (As := [.int (-4)]) (rest := []) (st2 := [.int (-4)]) (n_ref4) rfl lX10_50 (by first | assumption | rfl | decide) rfl ⟨rfl, by decide, by decide, by decide, rfl, rfl⟩ ?_
        exact tf_ret ftX10_summer hR rfl ⟨by decide, by decide⟩ rfl rfl rfl
      · rw [if_neg (by rintro (h | h | h); exact e1 h; exact e2 h; exact e3 h)]
        by_cases f1 : 99 < st
        · rw [if_pos (Or.inl f1)]
          refine ⟨tf_set S 124 6 (S 124 6 + 1), tf_Fn_of (own := RX10) false ⟨by decide, rfl, by decide⟩ (Nat.le_of_ble_eq_true rfl) trivial (fun x hx hR => ?_), cs_ref hA hC 6, fc_set (by omega)⟩
          show tf_K x 0 0 (tf_GG N) S 0 [some (.ref 4), some (.int st), some (.int ep), some (.int ga), none, none] []
          refine tf_go hx ftX10_summer 1 [] 1 [some (.ref 4), some (.int st), some (.int ep), some (.int ga), none, none] [.int st] S rfl ⟨by decide, by decide, rfl⟩ trivial ?_
          refine tf_go hx ftX10_summer 1 [false] 4 [some (.ref 4), some (.int st), some (.int ep), some (.int ga), none, none] [] S rfl ⟨by decide, by decide, rfl⟩ ⟨trivial, e1⟩ ?_
          refine tf_go hx ftX10_summer 2 [] 6 [some (.ref 4), some (.int st), some (.int ep), some (.int ga), none, none] [.int 1, .int ep] S rfl ⟨by decide, by decide, rfl⟩ trivial ?_
          refine tf_go hx ftX10_summer 1 [false] 9 [some (.ref 4), some (.int st), some (.int ep), some (.int ga), none, none] [] S rfl ⟨by decide, by decide, rfl⟩ ⟨trivial, e2⟩ ?_
          refine tf_go hx ftX10_summer 2 [] 11 [some (.ref 4), some (.int st), some (.int ep), some (.int ga), none, none] [.int 1, .int ga] S rfl ⟨by decide, by decide, rfl⟩ trivial ?_
          refine tf_go hx ftX10_summer 1 [true] 21 [some (.ref 4), some (.int st), some (.int ep), some (.int ga), none, none] [] S rfl ⟨by decide, by decide, rfl⟩ ⟨trivial, (Int32.not_lt.mp e3)⟩ ?_
          refine tf_go hx ftX10_summer 2 [] 24 [some (.ref 4), some (.int st), some (.int ep), some (.int ga), none, none] [.int 99, .int st] S rfl ⟨by decide, by decide, rfl⟩ trivial ?_
          refine tf_go hx ftX10_summer 1 [true] 39 [some (.ref 4), some (.int st), some (.int ep), some (.int ga), none, none] [] S rfl ⟨by decide, by decide, rfl⟩ ⟨trivial, f1⟩ ?_
          refine tf_go hx ftX10_summer 2 [] 42 [some (.ref 4), some (.int st), some (.int ep), some (.int ga), none, none] [.int (-6), .ref 4] S rfl ⟨by decide, by decide, rfl⟩ trivial ?_
          refine tf_cV hx ftX10_summer (nx := 45) (As := [.int (-6)]) (rest := []) (st2 := [.int (-6)]) (n_ref6) rfl lX10_50 (by first | assumption | rfl | decide) rfl ⟨rfl, by decide, by decide, by decide, rfl, rfl⟩ ?_
          exact tf_ret ftX10_summer hR rfl ⟨by decide, by decide⟩ rfl rfl rfl
        · by_cases f2 : 50 < ep
          · rw [if_pos (Or.inr (Or.inl f2))]
            refine ⟨tf_set S 124 6 (S 124 6 + 1), tf_Fn_of (own := RX10) false ⟨by decide, rfl, by decide⟩ (Nat.le_of_ble_eq_true rfl) trivial (fun x hx hR => ?_), cs_ref hA hC 6, fc_set (by omega)⟩
            show tf_K x 0 0 (tf_GG N) S 0 [some (.ref 4), some (.int st), some (.int ep), some (.int ga), none, none] []
            refine tf_go hx ftX10_summer 1 [] 1 [some (.ref 4), some (.int st), some (.int ep), some (.int ga), none, none] [.int st] S rfl ⟨by decide, by decide, rfl⟩ trivial ?_
            refine tf_go hx ftX10_summer 1 [false] 4 [some (.ref 4), some (.int st), some (.int ep), some (.int ga), none, none] [] S rfl ⟨by decide, by decide, rfl⟩ ⟨trivial, e1⟩ ?_
            refine tf_go hx ftX10_summer 2 [] 6 [some (.ref 4), some (.int st), some (.int ep), some (.int ga), none, none] [.int 1, .int ep] S rfl ⟨by decide, by decide, rfl⟩ trivial ?_
            refine tf_go hx ftX10_summer 1 [false] 9 [some (.ref 4), some (.int st), some (.int ep), some (.int ga), none, none] [] S rfl ⟨by decide, by decide, rfl⟩ ⟨trivial, e2⟩ ?_
            refine tf_go hx ftX10_summer 2 [] 11 [some (.ref 4), some (.int st), some (.int ep), some (.int ga), none, none] [.int 1, .int ga] S rfl ⟨by decide, by decide, rfl⟩ trivial ?_
            refine tf_go hx ftX10_summer 1 [true] 21 [some (.ref 4), some (.int st), some (.int ep), some (.int ga), none, none] [] S rfl ⟨by decide, by decide, rfl⟩ ⟨trivial, (Int32.not_lt.mp e3)⟩ ?_
            refine tf_go hx ftX10_summer 2 [] 24 [some (.ref 4), some (.int st), some (.int ep), some (.int ga), none, none] [.int 99, .int st] S rfl ⟨by decide, by decide, rfl⟩ trivial ?_
            refine tf_go hx ftX10_summer 1 [false] 27 [some (.ref 4), some (.int st), some (.int ep), some (.int ga), none, none] [] S rfl ⟨by decide, by decide, rfl⟩ ⟨trivial, f1⟩ ?_
            refine tf_go hx ftX10_summer 2 [] 30 [some (.ref 4), some (.int st), some (.int ep), some (.int ga), none, none] [.int 50, .int ep] S rfl ⟨by decide, by decide, rfl⟩ trivial ?_
            refine tf_go hx ftX10_summer 1 [true] 39 [some (.ref 4), some (.int st), some (.int ep), some (.int ga), none, none] [] S rfl ⟨by decide, by decide, rfl⟩ ⟨trivial, f2⟩ ?_
            refine tf_go hx ftX10_summer 2 [] 42 [some (.ref 4), some (.int st), some (.int ep), some (.int ga), none, none] [.int (-6), .ref 4] S rfl ⟨by decide, by decide, rfl⟩ trivial ?_
            refine tf_cV hx ftX10_summer (nx := 45) (As := [.int (-6)]) (rest := []) (st2 := [.int (-6)]) (n_ref6) rfl lX10_50 (by first | assumption | rfl | decide) rfl ⟨rfl, by decide, by decide, by decide, rfl, rfl⟩ ?_
            exact tf_ret ftX10_summer hR rfl ⟨by decide, by decide⟩ rfl rfl rfl
          · by_cases f3 : 50 < ga
            · rw [if_pos (Or.inr (Or.inr f3))]
              refine ⟨tf_set S 124 6 (S 124 6 + 1), tf_Fn_of (own := RX10) false ⟨by decide, rfl, by decide⟩ (Nat.le_of_ble_eq_true rfl) trivial (fun x hx hR => ?_), cs_ref hA hC 6, fc_set (by omega)⟩
              show tf_K x 0 0 (tf_GG N) S 0 [some (.ref 4), some (.int st), some (.int ep), some (.int ga), none, none] []
              refine tf_go hx ftX10_summer 1 [] 1 [some (.ref 4), some (.int st), some (.int ep), some (.int ga), none, none] [.int st] S rfl ⟨by decide, by decide, rfl⟩ trivial ?_
              refine tf_go hx ftX10_summer 1 [false] 4 [some (.ref 4), some (.int st), some (.int ep), some (.int ga), none, none] [] S rfl ⟨by decide, by decide, rfl⟩ ⟨trivial, e1⟩ ?_
              refine tf_go hx ftX10_summer 2 [] 6 [some (.ref 4), some (.int st), some (.int ep), some (.int ga), none, none] [.int 1, .int ep] S rfl ⟨by decide, by decide, rfl⟩ trivial ?_
              refine tf_go hx ftX10_summer 1 [false] 9 [some (.ref 4), some (.int st), some (.int ep), some (.int ga), none, none] [] S rfl ⟨by decide, by decide, rfl⟩ ⟨trivial, e2⟩ ?_
              refine tf_go hx ftX10_summer 2 [] 11 [some (.ref 4), some (.int st), some (.int ep), some (.int ga), none, none] [.int 1, .int ga] S rfl ⟨by decide, by decide, rfl⟩ trivial ?_
              refine tf_go hx ftX10_summer 1 [true] 21 [some (.ref 4), some (.int st), some (.int ep), some (.int ga), none, none] [] S rfl ⟨by decide, by decide, rfl⟩ ⟨trivial, (Int32.not_lt.mp e3)⟩ ?_
              refine tf_go hx ftX10_summer 2 [] 24 [some (.ref 4), some (.int st), some (.int ep), some (.int ga), none, none] [.int 99, .int st] S rfl ⟨by decide, by decide, rfl⟩ trivial ?_
              refine tf_go hx ftX10_summer 1 [false] 27 [some (.ref 4), some (.int st), some (.int ep), some (.int ga), none, none] [] S rfl ⟨by decide, by decide, rfl⟩ ⟨trivial, f1⟩ ?_
              refine tf_go hx ftX10_summer 2 [] 30 [some (.ref 4), some (.int st), some (.int ep), some (.int ga), none, none] [.int 50, .int ep] S rfl ⟨by decide, by decide, rfl⟩ trivial ?_
              refine tf_go hx ftX10_summer 1 [false] 33 [some (.ref 4), some (.int st), some (.int ep), some (.int ga), none, none] [] S rfl ⟨by decide, by decide, rfl⟩ ⟨trivial, f2⟩ ?_
              refine tf_go hx ftX10_summer 2 [] 36 [some (.ref 4), some (.int st), some (.int ep), some (.int ga), none, none] [.int 50, .int ga] S rfl ⟨by decide, by decide, rfl⟩ trivial ?_
              refine tf_go hx ftX10_summer 1 [false] 39 [some (.ref 4), some (.int st), some (.int ep), some (.int ga), none, none] [] S rfl ⟨by decide, by decide, rfl⟩ ⟨trivial, (Int32.not_le.mpr f3)⟩ ?_
              refine tf_go hx ftX10_summer 2 [] 42 [some (.ref 4), some (.int st), some (.int ep), some (.int ga), none, none] [.int (-6), .ref 4] S rfl ⟨by decide, by decide, rfl⟩ trivial ?_
              refine tf_cV hx ftX10_summer (nx := 45) (As := [.int (-6)]) (rest := []) (st2 := [.int (-6)]) (n_ref6) rfl lX10_50 (by first | assumption | rfl | decide) rfl ⟨rfl, by decide, by decide, by decide, rfl, rfl⟩ ?_
              exact tf_ret ftX10_summer hR rfl ⟨by decide, by decide⟩ rfl rfl rfl
            · rw [if_neg (by rintro (h | h | h); exact f1 h; exact f2 h; exact f3 h)]
              obtain ⟨st1, st1_le, st1_eq⟩ := nI_of2 (M := 99) (n := 99) (x := st) (by decide) (e1) (Int32.not_lt.mp f1)
              have st1_cl : st.toNatClampNeg = st1 := by rw [st1_eq]; exact tf_cl_nI (by omega)
              try rw [st1_cl]
              subst st1_eq
              obtain ⟨ep1, ep1_le, ep1_eq⟩ := nI_of2 (M := 50) (n := 50) (x := ep) (by decide) (fun h => e2 (Int32.lt_trans h (by decide))) (Int32.not_lt.mp f2)
              have ep1_cl : ep.toNatClampNeg = ep1 := by rw [ep1_eq]; exact tf_cl_nI (by omega)
              try rw [ep1_cl]
              subst ep1_eq
              obtain ⟨ga1, ga1_le, ga1_eq⟩ := nI_of2 (M := 50) (n := 50) (x := ga) (by decide) (fun h => e3 (Int32.lt_trans h (by decide))) (Int32.not_lt.mp f3)
              have ga1_cl : ga.toNatClampNeg = ga1 := by rw [ga1_eq]; exact tf_cl_nI (by omega)
              try rw [ga1_cl]
              subst ga1_eq
              refine ⟨S, tf_Fn_of (own := RX10) false ⟨by decide, rfl, by decide⟩ (Nat.le_of_ble_eq_true rfl) trivial (fun x hx hR => ?_), hC, fc_id⟩
              show tf_K x 0 0 (tf_GG N) S 0 [some (.ref 4), some (.int (nI st1)), some (.int (nI ep1)), some (.int (nI ga1)), none, none] []
              refine tf_go hx ftX10_summer 1 [] 1 [some (.ref 4), some (.int (nI st1)), some (.int (nI ep1)), some (.int (nI ga1)), none, none] [.int (nI st1)] S rfl ⟨by decide, by decide, rfl⟩ trivial ?_
              refine tf_go hx ftX10_summer 1 [false] 4 [some (.ref 4), some (.int (nI st1)), some (.int (nI ep1)), some (.int (nI ga1)), none, none] [] S rfl ⟨by decide, by decide, rfl⟩ ⟨trivial, e1⟩ ?_
              refine tf_go hx ftX10_summer 2 [] 6 [some (.ref 4), some (.int (nI st1)), some (.int (nI ep1)), some (.int (nI ga1)), none, none] [.int 1, .int (nI ep1)] S rfl ⟨by decide, by decide, rfl⟩ trivial ?_
              refine tf_go hx ftX10_summer 1 [false] 9 [some (.ref 4), some (.int (nI st1)), some (.int (nI ep1)), some (.int (nI ga1)), none, none] [] S rfl ⟨by decide, by decide, rfl⟩ ⟨trivial, e2⟩ ?_
              refine tf_go hx ftX10_summer 2 [] 11 [some (.ref 4), some (.int (nI st1)), some (.int (nI ep1)), some (.int (nI ga1)), none, none] [.int 1, .int (nI ga1)] S rfl ⟨by decide, by decide, rfl⟩ trivial ?_
              refine tf_go hx ftX10_summer 1 [true] 21 [some (.ref 4), some (.int (nI st1)), some (.int (nI ep1)), some (.int (nI ga1)), none, none] [] S rfl ⟨by decide, by decide, rfl⟩ ⟨trivial, (Int32.not_lt.mp e3)⟩ ?_
              refine tf_go hx ftX10_summer 2 [] 24 [some (.ref 4), some (.int (nI st1)), some (.int (nI ep1)), some (.int (nI ga1)), none, none] [.int 99, .int (nI st1)] S rfl ⟨by decide, by decide, rfl⟩ trivial ?_
              refine tf_go hx ftX10_summer 1 [false] 27 [some (.ref 4), some (.int (nI st1)), some (.int (nI ep1)), some (.int (nI ga1)), none, none] [] S rfl ⟨by decide, by decide, rfl⟩ ⟨trivial, f1⟩ ?_
              refine tf_go hx ftX10_summer 2 [] 30 [some (.ref 4), some (.int (nI st1)), some (.int (nI ep1)), some (.int (nI ga1)), none, none] [.int 50, .int (nI ep1)] S rfl ⟨by decide, by decide, rfl⟩ trivial ?_
              refine tf_go hx ftX10_summer 1 [false] 33 [some (.ref 4), some (.int (nI st1)), some (.int (nI ep1)), some (.int (nI ga1)), none, none] [] S rfl ⟨by decide, by decide, rfl⟩ ⟨trivial, f2⟩ ?_
              refine tf_go hx ftX10_summer 2 [] 36 [some (.ref 4), some (.int (nI st1)), some (.int (nI ep1)), some (.int (nI ga1)), none, none] [.int 50, .int (nI ga1)] S rfl ⟨by decide, by decide, rfl⟩ trivial ?_
              refine tf_go hx ftX10_summer 1 [true] 46 [some (.ref 4), some (.int (nI st1)), some (.int (nI ep1)), some (.int (nI ga1)), none, none] [] S rfl ⟨by decide, by decide, rfl⟩ ⟨trivial, (Int32.not_lt.mp f3)⟩ ?_
              refine tf_go hx ftX10_summer 4 [] 52 [some (.ref 4), some (.int (nI st1)), some (.int (nI ep1)), some (.int (nI ga1)), some (.int 0), some (.int 0)] [] S rfl ⟨by decide, by decide, rfl⟩ trivial ?_
              refine tf_fgt [some (.ref 4), some (.int (nI st1)), some (.int (nI ep1)), some (.int (nI ga1)), some (.int 0), some (.int 0)] (by simp [tf_lss]) ?_
              have loop : ∀ (m k : Nat) (y : Nat), k + m = 999 → (tf_su st1 ep1 ga1 m k y = tf_su st1 ep1 ga1 999 0 0) → (y ≤ 150 * k) → tf_K x 0 0 (tf_GG N) S 52 [some (.ref 4), some (.int (nI st1)), some (.int (nI ep1)), some (.int (nI ga1)), some (.int (nI y)), some (.int (nI k))] [] := by
                intro m
                induction m with
                | zero =>
                  intro k y hk he hy
                  refine tf_go hx ftX10_summer 2 [] 57 [some (.ref 4), some (.int (nI st1)), some (.int (nI ep1)), some (.int (nI ga1)), some (.int (nI y)), some (.int (nI k))] [.int 999, .int (nI k)] S rfl ⟨by decide, by decide, rfl⟩ trivial ?_
                  refine tf_go hx ftX10_summer 2 [true] 101 [some (.ref 4), some (.int (nI st1)), some (.int (nI ep1)), some (.int (nI ga1)), some (.int (nI y)), some (.int (nI k))] [.int (-9)] S rfl ⟨by decide, by decide, rfl⟩ ⟨trivial, (tf_leT (a := 999) (b := k) (rfl : (999 : Int32) = nI 999) rfl (by omega) (by omega) (by omega))⟩ ?_
                  exact tf_ret ftX10_summer hR rfl ⟨by decide, by decide⟩ rfl rfl (by rw [← he, show k = 999 by omega]; rfl)
                | succ m ih =>
                  intro k y hk he hy
                  rw [tf_su_s] at he
                  have m1 : k * ep1 ≤ 998 * 50 := Nat.mul_le_mul (by omega) ep1_le
                  have mc : ep1 * k = k * ep1 := Nat.mul_comm ep1 k
                  refine tf_go hx ftX10_summer 2 [] 57 [some (.ref 4), some (.int (nI st1)), some (.int (nI ep1)), some (.int (nI ga1)), some (.int (nI y)), some (.int (nI k))] [.int 999, .int (nI k)] S rfl ⟨by decide, by decide, rfl⟩ trivial ?_
                  refine tf_go hx ftX10_summer 1 [false] 60 [some (.ref 4), some (.int (nI st1)), some (.int (nI ep1)), some (.int (nI ga1)), some (.int (nI y)), some (.int (nI k))] [] S rfl ⟨by decide, by decide, rfl⟩ ⟨trivial, (tf_leF (a := 999) (b := k) (rfl : (999 : Int32) = nI 999) rfl (by omega) (by omega) (by omega))⟩ ?_
                  refine tf_go hx ftX10_summer 5 [] 67 [some (.ref 4), some (.int (nI st1)), some (.int (nI ep1)), some (.int (nI ga1)), some (.int (nI y)), some (.int (nI k))] [.int ((nI ep1) * (nI k)), .int (nI st1), .int (nI y)] S rfl ⟨by decide, by decide, rfl⟩ trivial ?_
                  rw [show ((nI ep1) * (nI k)) = nI (ep1 * k) from (tf_mul (a := ep1) (b := k) rfl rfl)]
                  rw [mc]
                  refine tf_go hx ftX10_summer 1 [] 68 [some (.ref 4), some (.int (nI st1)), some (.int (nI ep1)), some (.int (nI ga1)), some (.int (nI y)), some (.int (nI k))] [.int ((nI st1) + (nI (k * ep1))), .int (nI y)] S rfl ⟨by decide, by decide, rfl⟩ trivial ?_
                  rw [show ((nI st1) + (nI (k * ep1))) = nI (st1 + (k * ep1)) from (tf_add (a := st1) (b := (k * ep1)) rfl rfl)]
                  refine tf_go hx ftX10_summer 3 [] 72 [some (.ref 4), some (.int (nI st1)), some (.int (nI ep1)), some (.int (nI ga1)), some (.int (nI y)), some (.int (nI k))] [.int (100 + (nI ga1)), .int (nI (st1 + (k * ep1))), .int (nI y)] S rfl ⟨by decide, by decide, rfl⟩ trivial ?_
                  rw [show (100 + (nI ga1)) = nI (100 + ga1) from (tf_add (a := 100) (b := ga1) (rfl : (100 : Int32) = nI 100) rfl)]
                  have mn : (if nI (100 + ga1) < nI (st1 + k * ep1) then nI (100 + ga1) else nI (st1 + k * ep1)) = nI (if 100 + ga1 < st1 + k * ep1 then 100 + ga1 else st1 + k * ep1) := by
                    by_cases q : 100 + ga1 < st1 + k * ep1
                    · rw [if_pos q, if_pos (nI_lt q (by omega))]
                    · rw [if_neg q, if_neg (nI_nlt (by omega) (by omega))]
                  refine tf_go hx ftX10_summer 1 [] 75 [some (.ref 4), some (.int (nI st1)), some (.int (nI ep1)), some (.int (nI ga1)), some (.int (nI y)), some (.int (nI k))] [.int (if (nI (100 + ga1)) < (nI (st1 + (k * ep1))) then (nI (100 + ga1)) else (nI (st1 + (k * ep1)))), .int (nI y)] S rfl ⟨by decide, by decide, rfl⟩ trivial ?_
                  rw [mn]
                  have vl : (if 100 + ga1 < st1 + k * ep1 then 100 + ga1 else st1 + k * ep1) ≤ 150 := by split <;> omega
                  generalize (if 100 + ga1 < st1 + k * ep1 then 100 + ga1 else st1 + k * ep1) = v at *
                  refine tf_go hx ftX10_summer 2 [] 78 [some (.ref 4), some (.int (nI st1)), some (.int (nI ep1)), some (.int (nI ga1)), some (.int ((nI y) + (nI v))), some (.int (nI k))] [] S rfl ⟨by decide, by decide, rfl⟩ trivial ?_
                  rw [show ((nI y) + (nI v)) = nI (y + v) from (tf_add (a := y) (b := v) rfl rfl)]
                  refine tf_go hx ftX10_summer 6 [] 87 [some (.ref 4), some (.int (nI st1)), some (.int (nI ep1)), some (.int (nI ga1)), some (.int (nI (y + v))), some (.int (nI k))] [.int (100 * ((nI k) + 1)), .int (nI (y + v))] S rfl ⟨by decide, by decide, rfl⟩ trivial ?_
                  rw [show (100 * ((nI k) + 1)) = nI (100 * (k + 1)) from (tf_mul (a := 100) (b := (k + 1)) (rfl : (100 : Int32) = nI 100) (tf_add (a := k) (b := 1) rfl (rfl : (1 : Int32) = nI 1)))]
                  by_cases d1 : 100 * (k + 1) ≤ y + v
                  · rw [if_pos d1] at he
                    refine tf_go hx ftX10_summer 1 [false] 90 [some (.ref 4), some (.int (nI st1)), some (.int (nI ep1)), some (.int (nI ga1)), some (.int (nI (y + v))), some (.int (nI k))] [] S rfl ⟨by decide, by decide, rfl⟩ ⟨trivial, (tf_ltF (a := (y + v)) (b := (100 * (k + 1))) rfl rfl (by omega) (by omega) (by omega))⟩ ?_
                    refine tf_go hx ftX10_summer 1 [] 92 [some (.ref 4), some (.int (nI st1)), some (.int (nI ep1)), some (.int (nI ga1)), some (.int (nI (y + v))), some (.int (nI k))] [.int (nI k)] S rfl ⟨by decide, by decide, rfl⟩ trivial ?_
                    exact tf_ret ftX10_summer hR rfl ⟨by decide, by decide⟩ rfl rfl (by rw [← he, tf_on_y (by omega)]; rfl)
                  · rw [if_neg d1] at he
                    refine tf_go hx ftX10_summer 1 [true] 93 [some (.ref 4), some (.int (nI st1)), some (.int (nI ep1)), some (.int (nI ga1)), some (.int (nI (y + v))), some (.int (nI k))] [] S rfl ⟨by decide, by decide, rfl⟩ ⟨trivial, (tf_ltT (a := (y + v)) (b := (100 * (k + 1))) rfl rfl (by omega) (by omega) (by omega))⟩ ?_
                    refine tf_go hx ftX10_summer 2 [] 52 [some (.ref 4), some (.int (nI st1)), some (.int (nI ep1)), some (.int (nI ga1)), some (.int (nI (y + v))), some (.int ((nI k) + 1))] [] S rfl ⟨by decide, by decide, rfl⟩ trivial ?_
                    rw [show ((nI k) + 1) = nI (k + 1) from (tf_add (a := k) (b := 1) rfl (rfl : (1 : Int32) = nI 1))]
                    exact ih (k + 1) (y + v) (by omega) he (by omega)
              exact loop 999 0 0 rfl rfl (by omega)

set_option maxHeartbeats 2000000 in
theorem c_count {N : Nat} {S : tf_Sg} {A : tf_A} (w : Int32) (hA : tf_okA A) (hC : tf_cs S A)  : tf_cpq mX10_count 2 N S [.ref 4, .int w] (s_count A w) := by
  obtain ⟨hg, hb, hA3, hA4, hA5, hA6⟩ := id hA
  obtain ⟨h1j, hS, hK5, ⟨hT1, hT2⟩, hRf, hIm⟩ := id hC
  obtain ⟨⟨g1, g2, g3, g4⟩, g5, g6, g7, g8, g9, g10, g11⟩ := id hg
  unfold s_count
  by_cases k0 : w = 0
  · subst k0
    rw [if_neg (by decide), if_pos rfl]
    refine ⟨S, tf_Fn_of (own := RX10) false ⟨by decide, rfl, by decide⟩ (Nat.le_of_ble_eq_true rfl) trivial (fun x hx hR => ?_), hC, fc_id⟩
    show tf_K x 0 0 (tf_GG N) S 0 [some (.ref 4), some (.int 0)] []
    refine tf_go hx ftX10_count 1 [] 1 [some (.ref 4), some (.int 0)] [.int 0] S rfl ⟨by decide, by decide, rfl⟩ trivial ?_
    refine tf_swI hx ftX10_count 36 rfl ⟨by decide, by decide, rfl, by decide⟩ ?_
    refine tf_go hx ftX10_count 3 [] 43 [some (.ref 4), some (.int 0)] [.ref 28] S rfl ⟨by decide, by decide, rfl⟩ ⟨⟨trivial, ⟨by first | assumption | rfl | decide | omega | exact Nat.succ_ne_zero _, by first | assumption | rfl | decide | omega | exact Nat.succ_ne_zero _⟩⟩, ⟨by first | assumption | rfl | decide | omega | exact Nat.succ_ne_zero _, by first | assumption | rfl | decide | omega | exact Nat.succ_ne_zero _⟩⟩ ?_
    refine tf_cV hx ftX10_count (nx := 46) (As := []) (rest := []) (st2 := [.int (nI (A.1 364))]) (v_size (nw_M hS hg)) rfl lX10_54 (by first | assumption | rfl | decide) rfl ⟨rfl, by decide, by decide, by decide, rfl, rfl⟩ ?_
    exact tf_ret ftX10_count hR rfl ⟨by decide, by decide⟩ rfl rfl rfl
  · by_cases k1 : w = 1
    · subst k1
      rw [if_neg (by decide), if_neg (by decide), if_pos rfl]
      refine ⟨S, tf_Fn_of (own := RX10) false ⟨by decide, rfl, by decide⟩ (Nat.le_of_ble_eq_true rfl) trivial (fun x hx hR => ?_), hC, fc_id⟩
      show tf_K x 0 0 (tf_GG N) S 0 [some (.ref 4), some (.int 1)] []
      refine tf_go hx ftX10_count 1 [] 1 [some (.ref 4), some (.int 1)] [.int 1] S rfl ⟨by decide, by decide, rfl⟩ trivial ?_
      refine tf_swI hx ftX10_count 47 rfl ⟨by decide, by decide, rfl, by decide⟩ ?_
      refine tf_go hx ftX10_count 3 [] 54 [some (.ref 4), some (.int 1)] [.ref 30] S rfl ⟨by decide, by decide, rfl⟩ ⟨⟨trivial, ⟨by first | assumption | rfl | decide | omega | exact Nat.succ_ne_zero _, by first | assumption | rfl | decide | omega | exact Nat.succ_ne_zero _⟩⟩, ⟨by first | assumption | rfl | decide | omega | exact Nat.succ_ne_zero _, by first | assumption | rfl | decide | omega | exact Nat.succ_ne_zero _⟩⟩ ?_
      refine tf_cV hx ftX10_count (nx := 57) (As := []) (rest := []) (st2 := [.int (nI (A.1 365))]) (v_size (nw_W hS hg)) rfl lX10_54 (by first | assumption | rfl | decide) rfl ⟨rfl, by decide, by decide, by decide, rfl, rfl⟩ ?_
      exact tf_ret ftX10_count hR rfl ⟨by decide, by decide⟩ rfl rfl rfl
    · by_cases k2 : w = 2
      · subst k2
        rw [if_neg (by decide), if_neg (by decide), if_neg (by decide), if_pos rfl]
        refine ⟨S, tf_Fn_of (own := RX10) false ⟨by decide, rfl, by decide⟩ (Nat.le_of_ble_eq_true rfl) trivial (fun x hx hR => ?_), hC, fc_id⟩
        show tf_K x 0 0 (tf_GG N) S 0 [some (.ref 4), some (.int 2)] []
        refine tf_go hx ftX10_count 1 [] 1 [some (.ref 4), some (.int 2)] [.int 2] S rfl ⟨by decide, by decide, rfl⟩ trivial ?_
        refine tf_swI hx ftX10_count 58 rfl ⟨by decide, by decide, rfl, by decide⟩ ?_
        refine tf_go hx ftX10_count 3 [] 65 [some (.ref 4), some (.int 2)] [.ref 32] S rfl ⟨by decide, by decide, rfl⟩ ⟨⟨trivial, ⟨by first | assumption | rfl | decide | omega | exact Nat.succ_ne_zero _, by first | assumption | rfl | decide | omega | exact Nat.succ_ne_zero _⟩⟩, ⟨by first | assumption | rfl | decide | omega | exact Nat.succ_ne_zero _, by first | assumption | rfl | decide | omega | exact Nat.succ_ne_zero _⟩⟩ ?_
        refine tf_cV hx ftX10_count (nx := 68) (As := []) (rest := []) (st2 := [.int (nI (A.1 366))]) (w_size (nw_V hS) hg hb) rfl lX10_101 (by first | assumption | rfl | decide) rfl ⟨rfl, by decide, by decide, by decide, rfl, rfl⟩ ?_
        exact tf_ret ftX10_count hR rfl ⟨by decide, by decide⟩ rfl rfl rfl
      · by_cases k3 : w = 3
        · subst k3
          rw [if_neg (by decide), if_neg (by decide), if_neg (by decide), if_neg (by decide), if_pos rfl]
          refine ⟨S, tf_Fn_of (own := RX10) false ⟨by decide, rfl, by decide⟩ (Nat.le_of_ble_eq_true rfl) trivial (fun x hx hR => ?_), hC, fc_id⟩
          show tf_K x 0 0 (tf_GG N) S 0 [some (.ref 4), some (.int 3)] []
          refine tf_go hx ftX10_count 1 [] 1 [some (.ref 4), some (.int 3)] [.int 3] S rfl ⟨by decide, by decide, rfl⟩ trivial ?_
          refine tf_swI hx ftX10_count 69 rfl ⟨by decide, by decide, rfl, by decide⟩ ?_
          refine tf_go hx ftX10_count 3 [] 76 [some (.ref 4), some (.int 3)] [.ref 55] S rfl ⟨by decide, by decide, rfl⟩ ⟨⟨trivial, ⟨by first | assumption | rfl | decide | omega | exact Nat.succ_ne_zero _, by first | assumption | rfl | decide | omega | exact Nat.succ_ne_zero _⟩⟩, ⟨by first | assumption | rfl | decide | omega | exact Nat.succ_ne_zero _, by first | assumption | rfl | decide | omega | exact Nat.succ_ne_zero _⟩⟩ ?_
          refine tf_cV hx ftX10_count (nx := 79) (As := []) (rest := []) (st2 := [.int (nI (A.1 367))]) (v_size (nw_R hS hg)) rfl lX10_54 (by first | assumption | rfl | decide) rfl ⟨rfl, by decide, by decide, by decide, rfl, rfl⟩ ?_
          exact tf_ret ftX10_count hR rfl ⟨by decide, by decide⟩ rfl rfl rfl
        · by_cases k4 : w = 4
          · subst k4
            rw [if_neg (by decide), if_neg (by decide), if_neg (by decide), if_neg (by decide), if_neg (by decide), if_pos rfl]
            refine ⟨S, tf_Fn_of (own := RX10) false ⟨by decide, rfl, by decide⟩ (Nat.le_of_ble_eq_true rfl) trivial (fun x hx hR => ?_), hC, fc_id⟩
            show tf_K x 0 0 (tf_GG N) S 0 [some (.ref 4), some (.int 4)] []
            refine tf_go hx ftX10_count 1 [] 1 [some (.ref 4), some (.int 4)] [.int 4] S rfl ⟨by decide, by decide, rfl⟩ trivial ?_
            refine tf_swI hx ftX10_count 80 rfl ⟨by decide, by decide, rfl, by decide⟩ ?_
            refine tf_go hx ftX10_count 2 [] 84 [some (.ref 4), some (.int 4)] [.ref 109] S rfl ⟨by decide, by decide, rfl⟩ ⟨trivial, ⟨by first | assumption | rfl | decide | omega | exact Nat.succ_ne_zero _, by first | assumption | rfl | decide | omega | exact Nat.succ_ne_zero _⟩⟩ ?_
            refine tf_cV hx ftX10_count (nx := 87) (As := []) (rest := []) (st2 := [.int (nI A.2.2.1)]) (v_size (cs_T hA hC)) rfl lX10_54 (by first | assumption | rfl | decide) rfl ⟨rfl, by decide, by decide, by decide, rfl, rfl⟩ ?_
            exact tf_ret ftX10_count hR rfl ⟨by decide, by decide⟩ rfl rfl rfl
          · by_cases c1 : 10 < w ∧ w < 17
            · rw [if_pos c1]
              refine ⟨S, tf_Fn_of (own := RX10) false ⟨by decide, rfl, by decide⟩ (Nat.le_of_ble_eq_true rfl) trivial (fun x hx hR => ?_), hC, fc_id⟩
              show tf_K x 0 0 (tf_GG N) S 0 [some (.ref 4), some (.int w)] []
              refine tf_go hx ftX10_count 1 [] 1 [some (.ref 4), some (.int w)] [.int w] S rfl ⟨by decide, by decide, rfl⟩ trivial ?_
              refine tf_swO hx ftX10_count 88 rfl ⟨tf_out5 k0 k1 k2 k3 k4, by decide⟩ ?_
              refine tf_go hx ftX10_count 2 [] 90 [some (.ref 4), some (.int w)] [.int w, .ref 4] S rfl ⟨by decide, by decide, rfl⟩ trivial ?_
              refine tf_cV hx ftX10_count (nx := 93) (As := [.int w]) (rest := []) (st2 := [.int (A.2.2.2.1 (w - 10).toNatClampNeg)]) ((by have h := n_refs (N := N) (S := S) w; rw [if_pos c1, hRf] at h; exact h)) rfl lX10_212 (by first | assumption | rfl | decide) rfl ⟨rfl, by decide, by decide, by decide, rfl, rfl⟩ ?_
              exact tf_ret ftX10_count hR rfl ⟨by decide, by decide⟩ rfl rfl rfl
            · rw [if_neg c1, if_neg k0, if_neg k1, if_neg k2, if_neg k3, if_neg k4]
              refine ⟨S, tf_Fn_of (own := RX10) false ⟨by decide, rfl, by decide⟩ (Nat.le_of_ble_eq_true rfl) trivial (fun x hx hR => ?_), hC, fc_id⟩
              show tf_K x 0 0 (tf_GG N) S 0 [some (.ref 4), some (.int w)] []
              refine tf_go hx ftX10_count 1 [] 1 [some (.ref 4), some (.int w)] [.int w] S rfl ⟨by decide, by decide, rfl⟩ trivial ?_
              refine tf_swO hx ftX10_count 88 rfl ⟨tf_out5 k0 k1 k2 k3 k4, by decide⟩ ?_
              refine tf_go hx ftX10_count 2 [] 90 [some (.ref 4), some (.int w)] [.int w, .ref 4] S rfl ⟨by decide, by decide, rfl⟩ trivial ?_
              refine tf_cV hx ftX10_count (nx := 93) (As := [.int w]) (rest := []) (st2 := [.int (-9)]) ((by have h := n_refs (N := N) (S := S) w; rw [if_neg c1] at h; exact h)) rfl lX10_212 (by first | assumption | rfl | decide) rfl ⟨rfl, by decide, by decide, by decide, rfl, rfl⟩ ?_
              exact tf_ret ftX10_count hR rfl ⟨by decide, by decide⟩ rfl rfl rfl

