set_option maxHeartbeats 2000000 in
theorem law_c16 {N k : Nat} {z : Nat → Int32} {x : tf_X} {Y : tf_Sg} {A : tf_A} (hx : tf_C x cL_law RL 4 9 200 5000 false) (hN : N ≤ 320) (hk : k + 5 ≤ N) (hA : tf_okA A) (hC : tf_cs Y A) (hM : tf_ms (tf_GG N) Y 125 A) (hz : ∀ j, Y 3 j = z j) (ih : ∀ (Y : tf_Sg) (A : tf_A), tf_okA A → tf_cs Y A → tf_ms (tf_GG N) Y 125 A → (∀ j, Y 3 j = z j) → tf_K x 200 5000 (tf_GG N) Y 18 [some (.ref 3), some (.ref 4), some (.ref 125), some (.int (nI (k + 5)))] []) : tf_K x 200 5000 (tf_GG N) Y 768 [some (.ref 3), some (.ref 4), some (.ref 125), some (.int (nI k))] [] := by
  have i1 : vp_in (nI (k + 1)) (tf_ln (tf_GG N) 3) := tf_in (n := k + 1) (N := N) rfl rfl (by omega) (by omega)
  have i2 : vp_in (nI (k + 2)) (tf_ln (tf_GG N) 3) := tf_in (n := k + 2) (N := N) rfl rfl (by omega) (by omega)
  have i3 : vp_in (nI (k + 3)) (tf_ln (tf_GG N) 3) := tf_in (n := k + 3) (N := N) rfl rfl (by omega) (by omega)
  have i4 : vp_in (nI (k + 4)) (tf_ln (tf_GG N) 3) := tf_in (n := k + 4) (N := N) rfl rfl (by omega) (by omega)
  refine tf_go hx ftL_case16 1 [] 769 [some (.ref 3), some (.ref 4), some (.ref 125), some (.int (nI k))] [.ref 4] Y rfl ⟨by decide, by decide, rfl⟩ trivial ?_
  refine tf_go hx ftL_case16 4 [] 773 [some (.ref 3), some (.ref 4), some (.ref 125), some (.int (nI k))] [.int ((nI k) + 1), .ref 3, .ref 4] Y rfl ⟨by decide, by decide, rfl⟩ trivial ?_
  rw [show ((nI k) + 1) = nI (k + 1) from (tf_add (a := k) (b := 1) rfl (rfl : (1 : Int32) = nI 1))]
  refine tf_go hx ftL_case16 1 [] 774 [some (.ref 3), some (.ref 4), some (.ref 125), some (.int (nI k))] [.int (Y 3 (Int32.toNatClampNeg (nI (k + 1)))), .ref 4] Y rfl ⟨by decide, by decide, rfl⟩ ⟨trivial, ⟨Or.inr (by first | assumption | rfl | decide | omega | exact Nat.succ_ne_zero _), by first | assumption | exact tf_in (n := (k + 1)) rfl (by first | assumption | rfl) (by omega) (by decide)⟩⟩ ?_
  rw [show (Y 3 (Int32.toNatClampNeg (nI (k + 1)))) = (z (k + 1)) from (by rw [tf_cl_nI (by omega)]; exact hz (k + 1))]
  refine tf_go hx ftL_case16 4 [] 778 [some (.ref 3), some (.ref 4), some (.ref 125), some (.int (nI k))] [.int ((nI k) + 2), .ref 3, .int (z (k + 1)), .ref 4] Y rfl ⟨by decide, by decide, rfl⟩ trivial ?_
  rw [show ((nI k) + 2) = nI (k + 2) from (tf_add (a := k) (b := 2) rfl (rfl : (2 : Int32) = nI 2))]
  refine tf_go hx ftL_case16 1 [] 779 [some (.ref 3), some (.ref 4), some (.ref 125), some (.int (nI k))] [.int (Y 3 (Int32.toNatClampNeg (nI (k + 2)))), .int (z (k + 1)), .ref 4] Y rfl ⟨by decide, by decide, rfl⟩ ⟨trivial, ⟨Or.inr (by first | assumption | rfl | decide | omega | exact Nat.succ_ne_zero _), by first | assumption | exact tf_in (n := (k + 2)) rfl (by first | assumption | rfl) (by omega) (by decide)⟩⟩ ?_
  rw [show (Y 3 (Int32.toNatClampNeg (nI (k + 2)))) = (z (k + 2)) from (by rw [tf_cl_nI (by omega)]; exact hz (k + 2))]
  refine tf_go hx ftL_case16 4 [] 783 [some (.ref 3), some (.ref 4), some (.ref 125), some (.int (nI k))] [.int ((nI k) + 3), .ref 3, .int (z (k + 2)), .int (z (k + 1)), .ref 4] Y rfl ⟨by decide, by decide, rfl⟩ trivial ?_
  rw [show ((nI k) + 3) = nI (k + 3) from (tf_add (a := k) (b := 3) rfl (rfl : (3 : Int32) = nI 3))]
  refine tf_go hx ftL_case16 1 [] 784 [some (.ref 3), some (.ref 4), some (.ref 125), some (.int (nI k))] [.int (Y 3 (Int32.toNatClampNeg (nI (k + 3)))), .int (z (k + 2)), .int (z (k + 1)), .ref 4] Y rfl ⟨by decide, by decide, rfl⟩ ⟨trivial, ⟨Or.inr (by first | assumption | rfl | decide | omega | exact Nat.succ_ne_zero _), by first | assumption | exact tf_in (n := (k + 3)) rfl (by first | assumption | rfl) (by omega) (by decide)⟩⟩ ?_
  rw [show (Y 3 (Int32.toNatClampNeg (nI (k + 3)))) = (z (k + 3)) from (by rw [tf_cl_nI (by omega)]; exact hz (k + 3))]
  obtain ⟨X1, hF1, hc1, hf1⟩ := c_exchange (N := N) (S := Y) (z (k + 1)) (z (k + 2)) (z (k + 3)) hA hC
  refine tf_cV hx ftL_case16 (nx := 787) (As := [.int (z (k + 1)), .int (z (k + 2)), .int (z (k + 3))]) (rest := []) (st2 := [.int ((s_exchange A (z (k + 1)) (z (k + 2)) (z (k + 3))).1)]) (hF1) rfl lL_89 (by first | assumption | rfl | decide) rfl ⟨rfl, by decide, by decide, by decide, rfl, rfl⟩ ?_
  have hz1 : ∀ j, X1 3 j = z j := fun j => by rw [hf1 3 (by omega)]; exact hz j
  obtain ⟨Y1, hG1, hm1, hg1⟩ := p_exchange (G := (tf_GG N)) (S := X1) (o := 125) (z (k + 1)) (z (k + 2)) (z (k + 3)) mdG.1 mdG.2 hA (ms_fc hM hf1)
  refine tf_go hx ftL_case16 1 [] 788 [some (.ref 3), some (.ref 4), some (.ref 125), some (.int (nI k))] [.ref 125, .int ((s_exchange A (z (k + 1)) (z (k + 2)) (z (k + 3))).1)] X1 rfl ⟨by decide, by decide, rfl⟩ trivial ?_
  refine tf_go hx ftL_case16 4 [] 792 [some (.ref 3), some (.ref 4), some (.ref 125), some (.int (nI k))] [.int ((nI k) + 1), .ref 3, .ref 125, .int ((s_exchange A (z (k + 1)) (z (k + 2)) (z (k + 3))).1)] X1 rfl ⟨by decide, by decide, rfl⟩ trivial ?_
  rw [show ((nI k) + 1) = nI (k + 1) from (tf_add (a := k) (b := 1) rfl (rfl : (1 : Int32) = nI 1))]
  refine tf_go hx ftL_case16 1 [] 793 [some (.ref 3), some (.ref 4), some (.ref 125), some (.int (nI k))] [.int (X1 3 (Int32.toNatClampNeg (nI (k + 1)))), .ref 125, .int ((s_exchange A (z (k + 1)) (z (k + 2)) (z (k + 3))).1)] X1 rfl ⟨by decide, by decide, rfl⟩ ⟨trivial, ⟨Or.inr (by first | assumption | rfl | decide | omega | exact Nat.succ_ne_zero _), by first | assumption | exact tf_in (n := (k + 1)) rfl (by first | assumption | rfl) (by omega) (by decide)⟩⟩ ?_
  rw [show (X1 3 (Int32.toNatClampNeg (nI (k + 1)))) = (z (k + 1)) from (by rw [tf_cl_nI (by omega)]; exact hz1 (k + 1))]
  refine tf_go hx ftL_case16 4 [] 797 [some (.ref 3), some (.ref 4), some (.ref 125), some (.int (nI k))] [.int ((nI k) + 2), .ref 3, .int (z (k + 1)), .ref 125, .int ((s_exchange A (z (k + 1)) (z (k + 2)) (z (k + 3))).1)] X1 rfl ⟨by decide, by decide, rfl⟩ trivial ?_
  rw [show ((nI k) + 2) = nI (k + 2) from (tf_add (a := k) (b := 2) rfl (rfl : (2 : Int32) = nI 2))]
  refine tf_go hx ftL_case16 1 [] 798 [some (.ref 3), some (.ref 4), some (.ref 125), some (.int (nI k))] [.int (X1 3 (Int32.toNatClampNeg (nI (k + 2)))), .int (z (k + 1)), .ref 125, .int ((s_exchange A (z (k + 1)) (z (k + 2)) (z (k + 3))).1)] X1 rfl ⟨by decide, by decide, rfl⟩ ⟨trivial, ⟨Or.inr (by first | assumption | rfl | decide | omega | exact Nat.succ_ne_zero _), by first | assumption | exact tf_in (n := (k + 2)) rfl (by first | assumption | rfl) (by omega) (by decide)⟩⟩ ?_
  rw [show (X1 3 (Int32.toNatClampNeg (nI (k + 2)))) = (z (k + 2)) from (by rw [tf_cl_nI (by omega)]; exact hz1 (k + 2))]
  refine tf_go hx ftL_case16 4 [] 802 [some (.ref 3), some (.ref 4), some (.ref 125), some (.int (nI k))] [.int ((nI k) + 3), .ref 3, .int (z (k + 2)), .int (z (k + 1)), .ref 125, .int ((s_exchange A (z (k + 1)) (z (k + 2)) (z (k + 3))).1)] X1 rfl ⟨by decide, by decide, rfl⟩ trivial ?_
  rw [show ((nI k) + 3) = nI (k + 3) from (tf_add (a := k) (b := 3) rfl (rfl : (3 : Int32) = nI 3))]
  refine tf_go hx ftL_case16 1 [] 803 [some (.ref 3), some (.ref 4), some (.ref 125), some (.int (nI k))] [.int (X1 3 (Int32.toNatClampNeg (nI (k + 3)))), .int (z (k + 2)), .int (z (k + 1)), .ref 125, .int ((s_exchange A (z (k + 1)) (z (k + 2)) (z (k + 3))).1)] X1 rfl ⟨by decide, by decide, rfl⟩ ⟨trivial, ⟨Or.inr (by first | assumption | rfl | decide | omega | exact Nat.succ_ne_zero _), by first | assumption | exact tf_in (n := (k + 3)) rfl (by first | assumption | rfl) (by omega) (by decide)⟩⟩ ?_
  rw [show (X1 3 (Int32.toNatClampNeg (nI (k + 3)))) = (z (k + 3)) from (by rw [tf_cl_nI (by omega)]; exact hz1 (k + 3))]
  refine tf_cV hx ftL_case16 (nx := 806) (As := [.int (z (k + 1)), .int (z (k + 2)), .int (z (k + 3))]) (rest := [.int ((s_exchange A (z (k + 1)) (z (k + 2)) (z (k + 3))).1)]) (st2 := [.int ((s_exchange A (z (k + 1)) (z (k + 2)) (z (k + 3))).1), .int ((s_exchange A (z (k + 1)) (z (k + 2)) (z (k + 3))).1)]) (hG1) rfl lL_92 (by first | assumption | rfl | decide) rfl ⟨rfl, by decide, by decide, by decide, rfl, rfl⟩ ?_
  refine tf_go hx ftL_case16 1 [true] 1302 [some (.ref 3), some (.ref 4), some (.ref 125), some (.int (nI k))] [] Y1 rfl ⟨by decide, by decide, rfl⟩ ⟨trivial, rfl⟩ ?_
  refine tf_go hx ftL_case16 2 [] 18 [some (.ref 3), some (.ref 4), some (.ref 125), some (.int ((nI k) + 5))] [] Y1 rfl ⟨by decide, by decide, rfl⟩ trivial ?_
  rw [show ((nI k) + 5) = nI (k + 5) from (tf_add (a := k) (b := 5) rfl (rfl : (5 : Int32) = nI 5))]
  have hz2 : ∀ j, Y1 3 j = z j := fun j => by rw [fm_le hg1 3 (by omega)]; exact hz1 j
  exact ih Y1 (s_exchange A (z (k + 1)) (z (k + 2)) (z (k + 3))).2 (ok_exchange (z (k + 1)) (z (k + 2)) (z (k + 3)) hA) (cs_fm (ok_exchange (z (k + 1)) (z (k + 2)) (z (k + 3)) hA) hc1 hg1) hm1 hz2

set_option maxHeartbeats 2000000 in
theorem law_c17 {N k : Nat} {z : Nat → Int32} {x : tf_X} {Y : tf_Sg} {A : tf_A} (hx : tf_C x cL_law RL 4 9 200 5000 false) (hN : N ≤ 320) (hk : k + 5 ≤ N) (hA : tf_okA A) (hC : tf_cs Y A) (hM : tf_ms (tf_GG N) Y 125 A) (hz : ∀ j, Y 3 j = z j) (ih : ∀ (Y : tf_Sg) (A : tf_A), tf_okA A → tf_cs Y A → tf_ms (tf_GG N) Y 125 A → (∀ j, Y 3 j = z j) → tf_K x 200 5000 (tf_GG N) Y 18 [some (.ref 3), some (.ref 4), some (.ref 125), some (.int (nI (k + 5)))] []) : tf_K x 200 5000 (tf_GG N) Y 811 [some (.ref 3), some (.ref 4), some (.ref 125), some (.int (nI k))] [] := by
  have i1 : vp_in (nI (k + 1)) (tf_ln (tf_GG N) 3) := tf_in (n := k + 1) (N := N) rfl rfl (by omega) (by omega)
  have i2 : vp_in (nI (k + 2)) (tf_ln (tf_GG N) 3) := tf_in (n := k + 2) (N := N) rfl rfl (by omega) (by omega)
  have i3 : vp_in (nI (k + 3)) (tf_ln (tf_GG N) 3) := tf_in (n := k + 3) (N := N) rfl rfl (by omega) (by omega)
  have i4 : vp_in (nI (k + 4)) (tf_ln (tf_GG N) 3) := tf_in (n := k + 4) (N := N) rfl rfl (by omega) (by omega)
  refine tf_go hx ftL_case17 1 [] 812 [some (.ref 3), some (.ref 4), some (.ref 125), some (.int (nI k))] [.ref 4] Y rfl ⟨by decide, by decide, rfl⟩ trivial ?_
  refine tf_go hx ftL_case17 4 [] 816 [some (.ref 3), some (.ref 4), some (.ref 125), some (.int (nI k))] [.int ((nI k) + 1), .ref 3, .ref 4] Y rfl ⟨by decide, by decide, rfl⟩ trivial ?_
  rw [show ((nI k) + 1) = nI (k + 1) from (tf_add (a := k) (b := 1) rfl (rfl : (1 : Int32) = nI 1))]
  refine tf_go hx ftL_case17 1 [] 817 [some (.ref 3), some (.ref 4), some (.ref 125), some (.int (nI k))] [.int (Y 3 (Int32.toNatClampNeg (nI (k + 1)))), .ref 4] Y rfl ⟨by decide, by decide, rfl⟩ ⟨trivial, ⟨Or.inr (by first | assumption | rfl | decide | omega | exact Nat.succ_ne_zero _), by first | assumption | exact tf_in (n := (k + 1)) rfl (by first | assumption | rfl) (by omega) (by decide)⟩⟩ ?_
  rw [show (Y 3 (Int32.toNatClampNeg (nI (k + 1)))) = (z (k + 1)) from (by rw [tf_cl_nI (by omega)]; exact hz (k + 1))]
  refine tf_go hx ftL_case17 4 [] 821 [some (.ref 3), some (.ref 4), some (.ref 125), some (.int (nI k))] [.int ((nI k) + 2), .ref 3, .int (z (k + 1)), .ref 4] Y rfl ⟨by decide, by decide, rfl⟩ trivial ?_
  rw [show ((nI k) + 2) = nI (k + 2) from (tf_add (a := k) (b := 2) rfl (rfl : (2 : Int32) = nI 2))]
  refine tf_go hx ftL_case17 1 [] 822 [some (.ref 3), some (.ref 4), some (.ref 125), some (.int (nI k))] [.int (Y 3 (Int32.toNatClampNeg (nI (k + 2)))), .int (z (k + 1)), .ref 4] Y rfl ⟨by decide, by decide, rfl⟩ ⟨trivial, ⟨Or.inr (by first | assumption | rfl | decide | omega | exact Nat.succ_ne_zero _), by first | assumption | exact tf_in (n := (k + 2)) rfl (by first | assumption | rfl) (by omega) (by decide)⟩⟩ ?_
  rw [show (Y 3 (Int32.toNatClampNeg (nI (k + 2)))) = (z (k + 2)) from (by rw [tf_cl_nI (by omega)]; exact hz (k + 2))]
  obtain ⟨X1, hF1, hc1, hf1⟩ := c_better (N := N) (S := Y) (z (k + 1)) (z (k + 2)) hA hC
  refine tf_cV hx ftL_case17 (nx := 825) (As := [.int (z (k + 1)), .int (z (k + 2))]) (rest := []) (st2 := [.int ((s_better A (z (k + 1)) (z (k + 2))).1)]) (hF1) rfl lL_93 (by first | assumption | rfl | decide) rfl ⟨rfl, by decide, by decide, by decide, rfl, rfl⟩ ?_
  have hz1 : ∀ j, X1 3 j = z j := fun j => by rw [hf1 3 (by omega)]; exact hz j
  obtain ⟨Y1, hG1, hm1, hg1⟩ := p_better (G := (tf_GG N)) (S := X1) (o := 125) (z (k + 1)) (z (k + 2)) mdG.1 mdG.2 hA (ms_fc hM hf1)
  refine tf_go hx ftL_case17 1 [] 826 [some (.ref 3), some (.ref 4), some (.ref 125), some (.int (nI k))] [.ref 125, .int ((s_better A (z (k + 1)) (z (k + 2))).1)] X1 rfl ⟨by decide, by decide, rfl⟩ trivial ?_
  refine tf_go hx ftL_case17 4 [] 830 [some (.ref 3), some (.ref 4), some (.ref 125), some (.int (nI k))] [.int ((nI k) + 1), .ref 3, .ref 125, .int ((s_better A (z (k + 1)) (z (k + 2))).1)] X1 rfl ⟨by decide, by decide, rfl⟩ trivial ?_
  rw [show ((nI k) + 1) = nI (k + 1) from (tf_add (a := k) (b := 1) rfl (rfl : (1 : Int32) = nI 1))]
  refine tf_go hx ftL_case17 1 [] 831 [some (.ref 3), some (.ref 4), some (.ref 125), some (.int (nI k))] [.int (X1 3 (Int32.toNatClampNeg (nI (k + 1)))), .ref 125, .int ((s_better A (z (k + 1)) (z (k + 2))).1)] X1 rfl ⟨by decide, by decide, rfl⟩ ⟨trivial, ⟨Or.inr (by first | assumption | rfl | decide | omega | exact Nat.succ_ne_zero _), by first | assumption | exact tf_in (n := (k + 1)) rfl (by first | assumption | rfl) (by omega) (by decide)⟩⟩ ?_
  rw [show (X1 3 (Int32.toNatClampNeg (nI (k + 1)))) = (z (k + 1)) from (by rw [tf_cl_nI (by omega)]; exact hz1 (k + 1))]
  refine tf_go hx ftL_case17 4 [] 835 [some (.ref 3), some (.ref 4), some (.ref 125), some (.int (nI k))] [.int ((nI k) + 2), .ref 3, .int (z (k + 1)), .ref 125, .int ((s_better A (z (k + 1)) (z (k + 2))).1)] X1 rfl ⟨by decide, by decide, rfl⟩ trivial ?_
  rw [show ((nI k) + 2) = nI (k + 2) from (tf_add (a := k) (b := 2) rfl (rfl : (2 : Int32) = nI 2))]
  refine tf_go hx ftL_case17 1 [] 836 [some (.ref 3), some (.ref 4), some (.ref 125), some (.int (nI k))] [.int (X1 3 (Int32.toNatClampNeg (nI (k + 2)))), .int (z (k + 1)), .ref 125, .int ((s_better A (z (k + 1)) (z (k + 2))).1)] X1 rfl ⟨by decide, by decide, rfl⟩ ⟨trivial, ⟨Or.inr (by first | assumption | rfl | decide | omega | exact Nat.succ_ne_zero _), by first | assumption | exact tf_in (n := (k + 2)) rfl (by first | assumption | rfl) (by omega) (by decide)⟩⟩ ?_
  rw [show (X1 3 (Int32.toNatClampNeg (nI (k + 2)))) = (z (k + 2)) from (by rw [tf_cl_nI (by omega)]; exact hz1 (k + 2))]
  refine tf_cV hx ftL_case17 (nx := 839) (As := [.int (z (k + 1)), .int (z (k + 2))]) (rest := [.int ((s_better A (z (k + 1)) (z (k + 2))).1)]) (st2 := [.int ((s_better A (z (k + 1)) (z (k + 2))).1), .int ((s_better A (z (k + 1)) (z (k + 2))).1)]) (hG1) rfl lL_96 (by first | assumption | rfl | decide) rfl ⟨rfl, by decide, by decide, by decide, rfl, rfl⟩ ?_
  refine tf_go hx ftL_case17 1 [true] 1302 [some (.ref 3), some (.ref 4), some (.ref 125), some (.int (nI k))] [] Y1 rfl ⟨by decide, by decide, rfl⟩ ⟨trivial, rfl⟩ ?_
  refine tf_go hx ftL_case17 2 [] 18 [some (.ref 3), some (.ref 4), some (.ref 125), some (.int ((nI k) + 5))] [] Y1 rfl ⟨by decide, by decide, rfl⟩ trivial ?_
  rw [show ((nI k) + 5) = nI (k + 5) from (tf_add (a := k) (b := 5) rfl (rfl : (5 : Int32) = nI 5))]
  have hz2 : ∀ j, Y1 3 j = z j := fun j => by rw [fm_le hg1 3 (by omega)]; exact hz1 j
  exact ih Y1 (s_better A (z (k + 1)) (z (k + 2))).2 (ok_better (z (k + 1)) (z (k + 2)) hA) (cs_fm (ok_better (z (k + 1)) (z (k + 2)) hA) hc1 hg1) hm1 hz2

set_option maxHeartbeats 2000000 in
theorem law_c18 {N k : Nat} {z : Nat → Int32} {x : tf_X} {Y : tf_Sg} {A : tf_A} (hx : tf_C x cL_law RL 4 9 200 5000 false) (hN : N ≤ 320) (hk : k + 5 ≤ N) (hA : tf_okA A) (hC : tf_cs Y A) (hM : tf_ms (tf_GG N) Y 125 A) (hz : ∀ j, Y 3 j = z j) (ih : ∀ (Y : tf_Sg) (A : tf_A), tf_okA A → tf_cs Y A → tf_ms (tf_GG N) Y 125 A → (∀ j, Y 3 j = z j) → tf_K x 200 5000 (tf_GG N) Y 18 [some (.ref 3), some (.ref 4), some (.ref 125), some (.int (nI (k + 5)))] []) : tf_K x 200 5000 (tf_GG N) Y 844 [some (.ref 3), some (.ref 4), some (.ref 125), some (.int (nI k))] [] := by
  have i1 : vp_in (nI (k + 1)) (tf_ln (tf_GG N) 3) := tf_in (n := k + 1) (N := N) rfl rfl (by omega) (by omega)
  have i2 : vp_in (nI (k + 2)) (tf_ln (tf_GG N) 3) := tf_in (n := k + 2) (N := N) rfl rfl (by omega) (by omega)
  have i3 : vp_in (nI (k + 3)) (tf_ln (tf_GG N) 3) := tf_in (n := k + 3) (N := N) rfl rfl (by omega) (by omega)
  have i4 : vp_in (nI (k + 4)) (tf_ln (tf_GG N) 3) := tf_in (n := k + 4) (N := N) rfl rfl (by omega) (by omega)
  refine tf_go hx ftL_case18 1 [] 845 [some (.ref 3), some (.ref 4), some (.ref 125), some (.int (nI k))] [.ref 4] Y rfl ⟨by decide, by decide, rfl⟩ trivial ?_
  refine tf_go hx ftL_case18 4 [] 849 [some (.ref 3), some (.ref 4), some (.ref 125), some (.int (nI k))] [.int ((nI k) + 1), .ref 3, .ref 4] Y rfl ⟨by decide, by decide, rfl⟩ trivial ?_
  rw [show ((nI k) + 1) = nI (k + 1) from (tf_add (a := k) (b := 1) rfl (rfl : (1 : Int32) = nI 1))]
  refine tf_go hx ftL_case18 1 [] 850 [some (.ref 3), some (.ref 4), some (.ref 125), some (.int (nI k))] [.int (Y 3 (Int32.toNatClampNeg (nI (k + 1)))), .ref 4] Y rfl ⟨by decide, by decide, rfl⟩ ⟨trivial, ⟨Or.inr (by first | assumption | rfl | decide | omega | exact Nat.succ_ne_zero _), by first | assumption | exact tf_in (n := (k + 1)) rfl (by first | assumption | rfl) (by omega) (by decide)⟩⟩ ?_
  rw [show (Y 3 (Int32.toNatClampNeg (nI (k + 1)))) = (z (k + 1)) from (by rw [tf_cl_nI (by omega)]; exact hz (k + 1))]
  refine tf_go hx ftL_case18 4 [] 854 [some (.ref 3), some (.ref 4), some (.ref 125), some (.int (nI k))] [.int ((nI k) + 2), .ref 3, .int (z (k + 1)), .ref 4] Y rfl ⟨by decide, by decide, rfl⟩ trivial ?_
  rw [show ((nI k) + 2) = nI (k + 2) from (tf_add (a := k) (b := 2) rfl (rfl : (2 : Int32) = nI 2))]
  refine tf_go hx ftL_case18 1 [] 855 [some (.ref 3), some (.ref 4), some (.ref 125), some (.int (nI k))] [.int (Y 3 (Int32.toNatClampNeg (nI (k + 2)))), .int (z (k + 1)), .ref 4] Y rfl ⟨by decide, by decide, rfl⟩ ⟨trivial, ⟨Or.inr (by first | assumption | rfl | decide | omega | exact Nat.succ_ne_zero _), by first | assumption | exact tf_in (n := (k + 2)) rfl (by first | assumption | rfl) (by omega) (by decide)⟩⟩ ?_
  rw [show (Y 3 (Int32.toNatClampNeg (nI (k + 2)))) = (z (k + 2)) from (by rw [tf_cl_nI (by omega)]; exact hz (k + 2))]
  refine tf_go hx ftL_case18 4 [] 859 [some (.ref 3), some (.ref 4), some (.ref 125), some (.int (nI k))] [.int ((nI k) + 3), .ref 3, .int (z (k + 2)), .int (z (k + 1)), .ref 4] Y rfl ⟨by decide, by decide, rfl⟩ trivial ?_
  rw [show ((nI k) + 3) = nI (k + 3) from (tf_add (a := k) (b := 3) rfl (rfl : (3 : Int32) = nI 3))]
  refine tf_go hx ftL_case18 1 [] 860 [some (.ref 3), some (.ref 4), some (.ref 125), some (.int (nI k))] [.int (Y 3 (Int32.toNatClampNeg (nI (k + 3)))), .int (z (k + 2)), .int (z (k + 1)), .ref 4] Y rfl ⟨by decide, by decide, rfl⟩ ⟨trivial, ⟨Or.inr (by first | assumption | rfl | decide | omega | exact Nat.succ_ne_zero _), by first | assumption | exact tf_in (n := (k + 3)) rfl (by first | assumption | rfl) (by omega) (by decide)⟩⟩ ?_
  rw [show (Y 3 (Int32.toNatClampNeg (nI (k + 3)))) = (z (k + 3)) from (by rw [tf_cl_nI (by omega)]; exact hz (k + 3))]
  obtain ⟨X1, hF1, hc1, hf1⟩ := c_climb (N := N) (S := Y) (z (k + 1)) (z (k + 2)) (z (k + 3)) hA hC
  refine tf_cV hx ftL_case18 (nx := 863) (As := [.int (z (k + 1)), .int (z (k + 2)), .int (z (k + 3))]) (rest := []) (st2 := [.int ((s_climb A (z (k + 1)) (z (k + 2)) (z (k + 3))).1)]) (hF1) rfl lL_97 (by first | assumption | rfl | decide) rfl ⟨rfl, by decide, by decide, by decide, rfl, rfl⟩ ?_
  have hz1 : ∀ j, X1 3 j = z j := fun j => by rw [hf1 3 (by omega)]; exact hz j
  obtain ⟨Y1, hG1, hm1, hg1⟩ := p_climb (G := (tf_GG N)) (S := X1) (o := 125) (z (k + 1)) (z (k + 2)) (z (k + 3)) mdG.1 mdG.2 hA (ms_fc hM hf1)
  refine tf_go hx ftL_case18 1 [] 864 [some (.ref 3), some (.ref 4), some (.ref 125), some (.int (nI k))] [.ref 125, .int ((s_climb A (z (k + 1)) (z (k + 2)) (z (k + 3))).1)] X1 rfl ⟨by decide, by decide, rfl⟩ trivial ?_
  refine tf_go hx ftL_case18 4 [] 868 [some (.ref 3), some (.ref 4), some (.ref 125), some (.int (nI k))] [.int ((nI k) + 1), .ref 3, .ref 125, .int ((s_climb A (z (k + 1)) (z (k + 2)) (z (k + 3))).1)] X1 rfl ⟨by decide, by decide, rfl⟩ trivial ?_
  rw [show ((nI k) + 1) = nI (k + 1) from (tf_add (a := k) (b := 1) rfl (rfl : (1 : Int32) = nI 1))]
  refine tf_go hx ftL_case18 1 [] 869 [some (.ref 3), some (.ref 4), some (.ref 125), some (.int (nI k))] [.int (X1 3 (Int32.toNatClampNeg (nI (k + 1)))), .ref 125, .int ((s_climb A (z (k + 1)) (z (k + 2)) (z (k + 3))).1)] X1 rfl ⟨by decide, by decide, rfl⟩ ⟨trivial, ⟨Or.inr (by first | assumption | rfl | decide | omega | exact Nat.succ_ne_zero _), by first | assumption | exact tf_in (n := (k + 1)) rfl (by first | assumption | rfl) (by omega) (by decide)⟩⟩ ?_
  rw [show (X1 3 (Int32.toNatClampNeg (nI (k + 1)))) = (z (k + 1)) from (by rw [tf_cl_nI (by omega)]; exact hz1 (k + 1))]
  refine tf_go hx ftL_case18 4 [] 873 [some (.ref 3), some (.ref 4), some (.ref 125), some (.int (nI k))] [.int ((nI k) + 2), .ref 3, .int (z (k + 1)), .ref 125, .int ((s_climb A (z (k + 1)) (z (k + 2)) (z (k + 3))).1)] X1 rfl ⟨by decide, by decide, rfl⟩ trivial ?_
  rw [show ((nI k) + 2) = nI (k + 2) from (tf_add (a := k) (b := 2) rfl (rfl : (2 : Int32) = nI 2))]
  refine tf_go hx ftL_case18 1 [] 874 [some (.ref 3), some (.ref 4), some (.ref 125), some (.int (nI k))] [.int (X1 3 (Int32.toNatClampNeg (nI (k + 2)))), .int (z (k + 1)), .ref 125, .int ((s_climb A (z (k + 1)) (z (k + 2)) (z (k + 3))).1)] X1 rfl ⟨by decide, by decide, rfl⟩ ⟨trivial, ⟨Or.inr (by first | assumption | rfl | decide | omega | exact Nat.succ_ne_zero _), by first | assumption | exact tf_in (n := (k + 2)) rfl (by first | assumption | rfl) (by omega) (by decide)⟩⟩ ?_
  rw [show (X1 3 (Int32.toNatClampNeg (nI (k + 2)))) = (z (k + 2)) from (by rw [tf_cl_nI (by omega)]; exact hz1 (k + 2))]
  refine tf_go hx ftL_case18 4 [] 878 [some (.ref 3), some (.ref 4), some (.ref 125), some (.int (nI k))] [.int ((nI k) + 3), .ref 3, .int (z (k + 2)), .int (z (k + 1)), .ref 125, .int ((s_climb A (z (k + 1)) (z (k + 2)) (z (k + 3))).1)] X1 rfl ⟨by decide, by decide, rfl⟩ trivial ?_
  rw [show ((nI k) + 3) = nI (k + 3) from (tf_add (a := k) (b := 3) rfl (rfl : (3 : Int32) = nI 3))]
  refine tf_go hx ftL_case18 1 [] 879 [some (.ref 3), some (.ref 4), some (.ref 125), some (.int (nI k))] [.int (X1 3 (Int32.toNatClampNeg (nI (k + 3)))), .int (z (k + 2)), .int (z (k + 1)), .ref 125, .int ((s_climb A (z (k + 1)) (z (k + 2)) (z (k + 3))).1)] X1 rfl ⟨by decide, by decide, rfl⟩ ⟨trivial, ⟨Or.inr (by first | assumption | rfl | decide | omega | exact Nat.succ_ne_zero _), by first | assumption | exact tf_in (n := (k + 3)) rfl (by first | assumption | rfl) (by omega) (by decide)⟩⟩ ?_
  rw [show (X1 3 (Int32.toNatClampNeg (nI (k + 3)))) = (z (k + 3)) from (by rw [tf_cl_nI (by omega)]; exact hz1 (k + 3))]
  refine tf_cV hx ftL_case18 (nx := 882) (As := [.int (z (k + 1)), .int (z (k + 2)), .int (z (k + 3))]) (rest := [.int ((s_climb A (z (k + 1)) (z (k + 2)) (z (k + 3))).1)]) (st2 := [.int ((s_climb A (z (k + 1)) (z (k + 2)) (z (k + 3))).1), .int ((s_climb A (z (k + 1)) (z (k + 2)) (z (k + 3))).1)]) (hG1) rfl lL_100 (by first | assumption | rfl | decide) rfl ⟨rfl, by decide, by decide, by decide, rfl, rfl⟩ ?_
  refine tf_go hx ftL_case18 1 [true] 1302 [some (.ref 3), some (.ref 4), some (.ref 125), some (.int (nI k))] [] Y1 rfl ⟨by decide, by decide, rfl⟩ ⟨trivial, rfl⟩ ?_
  refine tf_go hx ftL_case18 2 [] 18 [some (.ref 3), some (.ref 4), some (.ref 125), some (.int ((nI k) + 5))] [] Y1 rfl ⟨by decide, by decide, rfl⟩ trivial ?_
  rw [show ((nI k) + 5) = nI (k + 5) from (tf_add (a := k) (b := 5) rfl (rfl : (5 : Int32) = nI 5))]
  have hz2 : ∀ j, Y1 3 j = z j := fun j => by rw [fm_le hg1 3 (by omega)]; exact hz1 j
  exact ih Y1 (s_climb A (z (k + 1)) (z (k + 2)) (z (k + 3))).2 (ok_climb (z (k + 1)) (z (k + 2)) (z (k + 3)) hA) (cs_fm (ok_climb (z (k + 1)) (z (k + 2)) (z (k + 3)) hA) hc1 hg1) hm1 hz2

set_option maxHeartbeats 2000000 in
theorem law_c19 {N k : Nat} {z : Nat → Int32} {x : tf_X} {Y : tf_Sg} {A : tf_A} (hx : tf_C x cL_law RL 4 9 200 5000 false) (hN : N ≤ 320) (hk : k + 5 ≤ N) (hA : tf_okA A) (hC : tf_cs Y A) (hM : tf_ms (tf_GG N) Y 125 A) (hz : ∀ j, Y 3 j = z j) (ih : ∀ (Y : tf_Sg) (A : tf_A), tf_okA A → tf_cs Y A → tf_ms (tf_GG N) Y 125 A → (∀ j, Y 3 j = z j) → tf_K x 200 5000 (tf_GG N) Y 18 [some (.ref 3), some (.ref 4), some (.ref 125), some (.int (nI (k + 5)))] []) : tf_K x 200 5000 (tf_GG N) Y 887 [some (.ref 3), some (.ref 4), some (.ref 125), some (.int (nI k))] [] := by
  have i1 : vp_in (nI (k + 1)) (tf_ln (tf_GG N) 3) := tf_in (n := k + 1) (N := N) rfl rfl (by omega) (by omega)
  have i2 : vp_in (nI (k + 2)) (tf_ln (tf_GG N) 3) := tf_in (n := k + 2) (N := N) rfl rfl (by omega) (by omega)
  have i3 : vp_in (nI (k + 3)) (tf_ln (tf_GG N) 3) := tf_in (n := k + 3) (N := N) rfl rfl (by omega) (by omega)
  have i4 : vp_in (nI (k + 4)) (tf_ln (tf_GG N) 3) := tf_in (n := k + 4) (N := N) rfl rfl (by omega) (by omega)
  refine tf_go hx ftL_case19 1 [] 888 [some (.ref 3), some (.ref 4), some (.ref 125), some (.int (nI k))] [.ref 4] Y rfl ⟨by decide, by decide, rfl⟩ trivial ?_
  refine tf_go hx ftL_case19 4 [] 892 [some (.ref 3), some (.ref 4), some (.ref 125), some (.int (nI k))] [.int ((nI k) + 1), .ref 3, .ref 4] Y rfl ⟨by decide, by decide, rfl⟩ trivial ?_
  rw [show ((nI k) + 1) = nI (k + 1) from (tf_add (a := k) (b := 1) rfl (rfl : (1 : Int32) = nI 1))]
  refine tf_go hx ftL_case19 1 [] 893 [some (.ref 3), some (.ref 4), some (.ref 125), some (.int (nI k))] [.int (Y 3 (Int32.toNatClampNeg (nI (k + 1)))), .ref 4] Y rfl ⟨by decide, by decide, rfl⟩ ⟨trivial, ⟨Or.inr (by first | assumption | rfl | decide | omega | exact Nat.succ_ne_zero _), by first | assumption | exact tf_in (n := (k + 1)) rfl (by first | assumption | rfl) (by omega) (by decide)⟩⟩ ?_
  rw [show (Y 3 (Int32.toNatClampNeg (nI (k + 1)))) = (z (k + 1)) from (by rw [tf_cl_nI (by omega)]; exact hz (k + 1))]
  refine tf_go hx ftL_case19 4 [] 897 [some (.ref 3), some (.ref 4), some (.ref 125), some (.int (nI k))] [.int ((nI k) + 2), .ref 3, .int (z (k + 1)), .ref 4] Y rfl ⟨by decide, by decide, rfl⟩ trivial ?_
  rw [show ((nI k) + 2) = nI (k + 2) from (tf_add (a := k) (b := 2) rfl (rfl : (2 : Int32) = nI 2))]
  refine tf_go hx ftL_case19 1 [] 898 [some (.ref 3), some (.ref 4), some (.ref 125), some (.int (nI k))] [.int (Y 3 (Int32.toNatClampNeg (nI (k + 2)))), .int (z (k + 1)), .ref 4] Y rfl ⟨by decide, by decide, rfl⟩ ⟨trivial, ⟨Or.inr (by first | assumption | rfl | decide | omega | exact Nat.succ_ne_zero _), by first | assumption | exact tf_in (n := (k + 2)) rfl (by first | assumption | rfl) (by omega) (by decide)⟩⟩ ?_
  rw [show (Y 3 (Int32.toNatClampNeg (nI (k + 2)))) = (z (k + 2)) from (by rw [tf_cl_nI (by omega)]; exact hz (k + 2))]
  refine tf_go hx ftL_case19 4 [] 902 [some (.ref 3), some (.ref 4), some (.ref 125), some (.int (nI k))] [.int ((nI k) + 3), .ref 3, .int (z (k + 2)), .int (z (k + 1)), .ref 4] Y rfl ⟨by decide, by decide, rfl⟩ trivial ?_
  rw [show ((nI k) + 3) = nI (k + 3) from (tf_add (a := k) (b := 3) rfl (rfl : (3 : Int32) = nI 3))]
  refine tf_go hx ftL_case19 1 [] 903 [some (.ref 3), some (.ref 4), some (.ref 125), some (.int (nI k))] [.int (Y 3 (Int32.toNatClampNeg (nI (k + 3)))), .int (z (k + 2)), .int (z (k + 1)), .ref 4] Y rfl ⟨by decide, by decide, rfl⟩ ⟨trivial, ⟨Or.inr (by first | assumption | rfl | decide | omega | exact Nat.succ_ne_zero _), by first | assumption | exact tf_in (n := (k + 3)) rfl (by first | assumption | rfl) (by omega) (by decide)⟩⟩ ?_
  rw [show (Y 3 (Int32.toNatClampNeg (nI (k + 3)))) = (z (k + 3)) from (by rw [tf_cl_nI (by omega)]; exact hz (k + 3))]
  obtain ⟨X1, hF1, hc1, hf1⟩ := c_summer (N := N) (S := Y) (z (k + 1)) (z (k + 2)) (z (k + 3)) hA hC
  refine tf_cV hx ftL_case19 (nx := 906) (As := [.int (z (k + 1)), .int (z (k + 2)), .int (z (k + 3))]) (rest := []) (st2 := [.int ((s_summer A (z (k + 1)) (z (k + 2)) (z (k + 3))).1)]) (hF1) rfl lL_101 (by first | assumption | rfl | decide) rfl ⟨rfl, by decide, by decide, by decide, rfl, rfl⟩ ?_
  have hz1 : ∀ j, X1 3 j = z j := fun j => by rw [hf1 3 (by omega)]; exact hz j
  obtain ⟨Y1, hG1, hm1, hg1⟩ := p_summer (G := (tf_GG N)) (S := X1) (o := 125) (z (k + 1)) (z (k + 2)) (z (k + 3)) mdG.1 mdG.2 hA (ms_fc hM hf1)
  refine tf_go hx ftL_case19 1 [] 907 [some (.ref 3), some (.ref 4), some (.ref 125), some (.int (nI k))] [.ref 125, .int ((s_summer A (z (k + 1)) (z (k + 2)) (z (k + 3))).1)] X1 rfl ⟨by decide, by decide, rfl⟩ trivial ?_
  refine tf_go hx ftL_case19 4 [] 911 [some (.ref 3), some (.ref 4), some (.ref 125), some (.int (nI k))] [.int ((nI k) + 1), .ref 3, .ref 125, .int ((s_summer A (z (k + 1)) (z (k + 2)) (z (k + 3))).1)] X1 rfl ⟨by decide, by decide, rfl⟩ trivial ?_
  rw [show ((nI k) + 1) = nI (k + 1) from (tf_add (a := k) (b := 1) rfl (rfl : (1 : Int32) = nI 1))]
  refine tf_go hx ftL_case19 1 [] 912 [some (.ref 3), some (.ref 4), some (.ref 125), some (.int (nI k))] [.int (X1 3 (Int32.toNatClampNeg (nI (k + 1)))), .ref 125, .int ((s_summer A (z (k + 1)) (z (k + 2)) (z (k + 3))).1)] X1 rfl ⟨by decide, by decide, rfl⟩ ⟨trivial, ⟨Or.inr (by first | assumption | rfl | decide | omega | exact Nat.succ_ne_zero _), by first | assumption | exact tf_in (n := (k + 1)) rfl (by first | assumption | rfl) (by omega) (by decide)⟩⟩ ?_
  rw [show (X1 3 (Int32.toNatClampNeg (nI (k + 1)))) = (z (k + 1)) from (by rw [tf_cl_nI (by omega)]; exact hz1 (k + 1))]
  refine tf_go hx ftL_case19 4 [] 916 [some (.ref 3), some (.ref 4), some (.ref 125), some (.int (nI k))] [.int ((nI k) + 2), .ref 3, .int (z (k + 1)), .ref 125, .int ((s_summer A (z (k + 1)) (z (k + 2)) (z (k + 3))).1)] X1 rfl ⟨by decide, by decide, rfl⟩ trivial ?_
  rw [show ((nI k) + 2) = nI (k + 2) from (tf_add (a := k) (b := 2) rfl (rfl : (2 : Int32) = nI 2))]
  refine tf_go hx ftL_case19 1 [] 917 [some (.ref 3), some (.ref 4), some (.ref 125), some (.int (nI k))] [.int (X1 3 (Int32.toNatClampNeg (nI (k + 2)))), .int (z (k + 1)), .ref 125, .int ((s_summer A (z (k + 1)) (z (k + 2)) (z (k + 3))).1)] X1 rfl ⟨by decide, by decide, rfl⟩ ⟨trivial, ⟨Or.inr (by first | assumption | rfl | decide | omega | exact Nat.succ_ne_zero _), by first | assumption | exact tf_in (n := (k + 2)) rfl (by first | assumption | rfl) (by omega) (by decide)⟩⟩ ?_
  rw [show (X1 3 (Int32.toNatClampNeg (nI (k + 2)))) = (z (k + 2)) from (by rw [tf_cl_nI (by omega)]; exact hz1 (k + 2))]
  refine tf_go hx ftL_case19 4 [] 921 [some (.ref 3), some (.ref 4), some (.ref 125), some (.int (nI k))] [.int ((nI k) + 3), .ref 3, .int (z (k + 2)), .int (z (k + 1)), .ref 125, .int ((s_summer A (z (k + 1)) (z (k + 2)) (z (k + 3))).1)] X1 rfl ⟨by decide, by decide, rfl⟩ trivial ?_
  rw [show ((nI k) + 3) = nI (k + 3) from (tf_add (a := k) (b := 3) rfl (rfl : (3 : Int32) = nI 3))]
  refine tf_go hx ftL_case19 1 [] 922 [some (.ref 3), some (.ref 4), some (.ref 125), some (.int (nI k))] [.int (X1 3 (Int32.toNatClampNeg (nI (k + 3)))), .int (z (k + 2)), .int (z (k + 1)), .ref 125, .int ((s_summer A (z (k + 1)) (z (k + 2)) (z (k + 3))).1)] X1 rfl ⟨by decide, by decide, rfl⟩ ⟨trivial, ⟨Or.inr (by first | assumption | rfl | decide | omega | exact Nat.succ_ne_zero _), by first | assumption | exact tf_in (n := (k + 3)) rfl (by first | assumption | rfl) (by omega) (by decide)⟩⟩ ?_
  rw [show (X1 3 (Int32.toNatClampNeg (nI (k + 3)))) = (z (k + 3)) from (by rw [tf_cl_nI (by omega)]; exact hz1 (k + 3))]
  refine tf_cV hx ftL_case19 (nx := 925) (As := [.int (z (k + 1)), .int (z (k + 2)), .int (z (k + 3))]) (rest := [.int ((s_summer A (z (k + 1)) (z (k + 2)) (z (k + 3))).1)]) (st2 := [.int ((s_summer A (z (k + 1)) (z (k + 2)) (z (k + 3))).1), .int ((s_summer A (z (k + 1)) (z (k + 2)) (z (k + 3))).1)]) (hG1) rfl lL_104 (by first | assumption | rfl | decide) rfl ⟨rfl, by decide, by decide, by decide, rfl, rfl⟩ ?_
  refine tf_go hx ftL_case19 1 [true] 1302 [some (.ref 3), some (.ref 4), some (.ref 125), some (.int (nI k))] [] Y1 rfl ⟨by decide, by decide, rfl⟩ ⟨trivial, rfl⟩ ?_
  refine tf_go hx ftL_case19 2 [] 18 [some (.ref 3), some (.ref 4), some (.ref 125), some (.int ((nI k) + 5))] [] Y1 rfl ⟨by decide, by decide, rfl⟩ trivial ?_
  rw [show ((nI k) + 5) = nI (k + 5) from (tf_add (a := k) (b := 5) rfl (rfl : (5 : Int32) = nI 5))]
  have hz2 : ∀ j, Y1 3 j = z j := fun j => by rw [fm_le hg1 3 (by omega)]; exact hz1 j
  exact ih Y1 (s_summer A (z (k + 1)) (z (k + 2)) (z (k + 3))).2 (ok_summer (z (k + 1)) (z (k + 2)) (z (k + 3)) hA) (cs_fm (ok_summer (z (k + 1)) (z (k + 2)) (z (k + 3)) hA) hc1 hg1) hm1 hz2

set_option maxHeartbeats 2000000 in
theorem law_c20 {N k : Nat} {z : Nat → Int32} {x : tf_X} {Y : tf_Sg} {A : tf_A} (hx : tf_C x cL_law RL 4 9 200 5000 false) (hN : N ≤ 320) (hk : k + 5 ≤ N) (hA : tf_okA A) (hC : tf_cs Y A) (hM : tf_ms (tf_GG N) Y 125 A) (hz : ∀ j, Y 3 j = z j) (ih : ∀ (Y : tf_Sg) (A : tf_A), tf_okA A → tf_cs Y A → tf_ms (tf_GG N) Y 125 A → (∀ j, Y 3 j = z j) → tf_K x 200 5000 (tf_GG N) Y 18 [some (.ref 3), some (.ref 4), some (.ref 125), some (.int (nI (k + 5)))] []) : tf_K x 200 5000 (tf_GG N) Y 930 [some (.ref 3), some (.ref 4), some (.ref 125), some (.int (nI k))] [] := by
  have i1 : vp_in (nI (k + 1)) (tf_ln (tf_GG N) 3) := tf_in (n := k + 1) (N := N) rfl rfl (by omega) (by omega)
  have i2 : vp_in (nI (k + 2)) (tf_ln (tf_GG N) 3) := tf_in (n := k + 2) (N := N) rfl rfl (by omega) (by omega)
  have i3 : vp_in (nI (k + 3)) (tf_ln (tf_GG N) 3) := tf_in (n := k + 3) (N := N) rfl rfl (by omega) (by omega)
  have i4 : vp_in (nI (k + 4)) (tf_ln (tf_GG N) 3) := tf_in (n := k + 4) (N := N) rfl rfl (by omega) (by omega)
  refine tf_go hx ftL_case20 1 [] 931 [some (.ref 3), some (.ref 4), some (.ref 125), some (.int (nI k))] [.ref 4] Y rfl ⟨by decide, by decide, rfl⟩ trivial ?_
  refine tf_go hx ftL_case20 4 [] 935 [some (.ref 3), some (.ref 4), some (.ref 125), some (.int (nI k))] [.int ((nI k) + 1), .ref 3, .ref 4] Y rfl ⟨by decide, by decide, rfl⟩ trivial ?_
  rw [show ((nI k) + 1) = nI (k + 1) from (tf_add (a := k) (b := 1) rfl (rfl : (1 : Int32) = nI 1))]
  refine tf_go hx ftL_case20 1 [] 936 [some (.ref 3), some (.ref 4), some (.ref 125), some (.int (nI k))] [.int (Y 3 (Int32.toNatClampNeg (nI (k + 1)))), .ref 4] Y rfl ⟨by decide, by decide, rfl⟩ ⟨trivial, ⟨Or.inr (by first | assumption | rfl | decide | omega | exact Nat.succ_ne_zero _), by first | assumption | exact tf_in (n := (k + 1)) rfl (by first | assumption | rfl) (by omega) (by decide)⟩⟩ ?_
  rw [show (Y 3 (Int32.toNatClampNeg (nI (k + 1)))) = (z (k + 1)) from (by rw [tf_cl_nI (by omega)]; exact hz (k + 1))]
  obtain ⟨X1, hF1, hc1, hf1⟩ := c_put (N := N) (S := Y) (z (k + 1)) hA hC
  refine tf_cV hx ftL_case20 (nx := 939) (As := [.int (z (k + 1))]) (rest := []) (st2 := [.int ((s_put A (z (k + 1))).1)]) (hF1) rfl lL_105 (by first | assumption | rfl | decide) rfl ⟨rfl, by decide, by decide, by decide, rfl, rfl⟩ ?_
  have hz1 : ∀ j, X1 3 j = z j := fun j => by rw [hf1 3 (by omega)]; exact hz j
  obtain ⟨Y1, hG1, hm1, hg1⟩ := p_put (G := (tf_GG N)) (S := X1) (o := 125) (z (k + 1)) mdG.1 mdG.2 hA (ms_fc hM hf1)
  refine tf_go hx ftL_case20 1 [] 940 [some (.ref 3), some (.ref 4), some (.ref 125), some (.int (nI k))] [.ref 125, .int ((s_put A (z (k + 1))).1)] X1 rfl ⟨by decide, by decide, rfl⟩ trivial ?_
  refine tf_go hx ftL_case20 4 [] 944 [some (.ref 3), some (.ref 4), some (.ref 125), some (.int (nI k))] [.int ((nI k) + 1), .ref 3, .ref 125, .int ((s_put A (z (k + 1))).1)] X1 rfl ⟨by decide, by decide, rfl⟩ trivial ?_
  rw [show ((nI k) + 1) = nI (k + 1) from (tf_add (a := k) (b := 1) rfl (rfl : (1 : Int32) = nI 1))]
  refine tf_go hx ftL_case20 1 [] 945 [some (.ref 3), some (.ref 4), some (.ref 125), some (.int (nI k))] [.int (X1 3 (Int32.toNatClampNeg (nI (k + 1)))), .ref 125, .int ((s_put A (z (k + 1))).1)] X1 rfl ⟨by decide, by decide, rfl⟩ ⟨trivial, ⟨Or.inr (by first | assumption | rfl | decide | omega | exact Nat.succ_ne_zero _), by first | assumption | exact tf_in (n := (k + 1)) rfl (by first | assumption | rfl) (by omega) (by decide)⟩⟩ ?_
  rw [show (X1 3 (Int32.toNatClampNeg (nI (k + 1)))) = (z (k + 1)) from (by rw [tf_cl_nI (by omega)]; exact hz1 (k + 1))]
  refine tf_cV hx ftL_case20 (nx := 948) (As := [.int (z (k + 1))]) (rest := [.int ((s_put A (z (k + 1))).1)]) (st2 := [.int ((s_put A (z (k + 1))).1), .int ((s_put A (z (k + 1))).1)]) (hG1) rfl lL_108 (by first | assumption | rfl | decide) rfl ⟨rfl, by decide, by decide, by decide, rfl, rfl⟩ ?_
  refine tf_go hx ftL_case20 1 [true] 1302 [some (.ref 3), some (.ref 4), some (.ref 125), some (.int (nI k))] [] Y1 rfl ⟨by decide, by decide, rfl⟩ ⟨trivial, rfl⟩ ?_
  refine tf_go hx ftL_case20 2 [] 18 [some (.ref 3), some (.ref 4), some (.ref 125), some (.int ((nI k) + 5))] [] Y1 rfl ⟨by decide, by decide, rfl⟩ trivial ?_
  rw [show ((nI k) + 5) = nI (k + 5) from (tf_add (a := k) (b := 5) rfl (rfl : (5 : Int32) = nI 5))]
  have hz2 : ∀ j, Y1 3 j = z j := fun j => by rw [fm_le hg1 3 (by omega)]; exact hz1 j
  exact ih Y1 (s_put A (z (k + 1))).2 (ok_put (z (k + 1)) hA) (cs_fm (ok_put (z (k + 1)) hA) hc1 hg1) hm1 hz2

set_option maxHeartbeats 2000000 in
theorem law_c21 {N k : Nat} {z : Nat → Int32} {x : tf_X} {Y : tf_Sg} {A : tf_A} (hx : tf_C x cL_law RL 4 9 200 5000 false) (hN : N ≤ 320) (hk : k + 5 ≤ N) (hA : tf_okA A) (hC : tf_cs Y A) (hM : tf_ms (tf_GG N) Y 125 A) (hz : ∀ j, Y 3 j = z j) (ih : ∀ (Y : tf_Sg) (A : tf_A), tf_okA A → tf_cs Y A → tf_ms (tf_GG N) Y 125 A → (∀ j, Y 3 j = z j) → tf_K x 200 5000 (tf_GG N) Y 18 [some (.ref 3), some (.ref 4), some (.ref 125), some (.int (nI (k + 5)))] []) : tf_K x 200 5000 (tf_GG N) Y 953 [some (.ref 3), some (.ref 4), some (.ref 125), some (.int (nI k))] [] := by
  have i1 : vp_in (nI (k + 1)) (tf_ln (tf_GG N) 3) := tf_in (n := k + 1) (N := N) rfl rfl (by omega) (by omega)
  have i2 : vp_in (nI (k + 2)) (tf_ln (tf_GG N) 3) := tf_in (n := k + 2) (N := N) rfl rfl (by omega) (by omega)
  have i3 : vp_in (nI (k + 3)) (tf_ln (tf_GG N) 3) := tf_in (n := k + 3) (N := N) rfl rfl (by omega) (by omega)
  have i4 : vp_in (nI (k + 4)) (tf_ln (tf_GG N) 3) := tf_in (n := k + 4) (N := N) rfl rfl (by omega) (by omega)
  refine tf_go hx ftL_case21 1 [] 954 [some (.ref 3), some (.ref 4), some (.ref 125), some (.int (nI k))] [.ref 4] Y rfl ⟨by decide, by decide, rfl⟩ trivial ?_
  obtain ⟨X1, hF1, hc1, hf1⟩ := c_unput (N := N) (S := Y)  hA hC
  refine tf_cV hx ftL_case21 (nx := 957) (As := []) (rest := []) (st2 := [.int ((s_unput A).1)]) (hF1) rfl lL_109 (by first | assumption | rfl | decide) rfl ⟨rfl, by decide, by decide, by decide, rfl, rfl⟩ ?_
  have hz1 : ∀ j, X1 3 j = z j := fun j => by rw [hf1 3 (by omega)]; exact hz j
  obtain ⟨Y1, hG1, hm1, hg1⟩ := p_unput (G := (tf_GG N)) (S := X1) (o := 125)  mdG.1 mdG.2 hA (ms_fc hM hf1)
  refine tf_go hx ftL_case21 1 [] 958 [some (.ref 3), some (.ref 4), some (.ref 125), some (.int (nI k))] [.ref 125, .int ((s_unput A).1)] X1 rfl ⟨by decide, by decide, rfl⟩ trivial ?_
  refine tf_cV hx ftL_case21 (nx := 961) (As := []) (rest := [.int ((s_unput A).1)]) (st2 := [.int ((s_unput A).1), .int ((s_unput A).1)]) (hG1) rfl lL_112 (by first | assumption | rfl | decide) rfl ⟨rfl, by decide, by decide, by decide, rfl, rfl⟩ ?_
  refine tf_go hx ftL_case21 1 [true] 1302 [some (.ref 3), some (.ref 4), some (.ref 125), some (.int (nI k))] [] Y1 rfl ⟨by decide, by decide, rfl⟩ ⟨trivial, rfl⟩ ?_
  refine tf_go hx ftL_case21 2 [] 18 [some (.ref 3), some (.ref 4), some (.ref 125), some (.int ((nI k) + 5))] [] Y1 rfl ⟨by decide, by decide, rfl⟩ trivial ?_
  rw [show ((nI k) + 5) = nI (k + 5) from (tf_add (a := k) (b := 5) rfl (rfl : (5 : Int32) = nI 5))]
  have hz2 : ∀ j, Y1 3 j = z j := fun j => by rw [fm_le hg1 3 (by omega)]; exact hz1 j
  exact ih Y1 (s_unput A).2 (ok_unput hA) (cs_fm (ok_unput hA) hc1 hg1) hm1 hz2

set_option maxHeartbeats 2000000 in
theorem law_c22 {N k : Nat} {z : Nat → Int32} {x : tf_X} {Y : tf_Sg} {A : tf_A} (hx : tf_C x cL_law RL 4 9 200 5000 false) (hN : N ≤ 320) (hk : k + 5 ≤ N) (hA : tf_okA A) (hC : tf_cs Y A) (hM : tf_ms (tf_GG N) Y 125 A) (hz : ∀ j, Y 3 j = z j) (ih : ∀ (Y : tf_Sg) (A : tf_A), tf_okA A → tf_cs Y A → tf_ms (tf_GG N) Y 125 A → (∀ j, Y 3 j = z j) → tf_K x 200 5000 (tf_GG N) Y 18 [some (.ref 3), some (.ref 4), some (.ref 125), some (.int (nI (k + 5)))] []) : tf_K x 200 5000 (tf_GG N) Y 966 [some (.ref 3), some (.ref 4), some (.ref 125), some (.int (nI k))] [] := by
  have i1 : vp_in (nI (k + 1)) (tf_ln (tf_GG N) 3) := tf_in (n := k + 1) (N := N) rfl rfl (by omega) (by omega)
  have i2 : vp_in (nI (k + 2)) (tf_ln (tf_GG N) 3) := tf_in (n := k + 2) (N := N) rfl rfl (by omega) (by omega)
  have i3 : vp_in (nI (k + 3)) (tf_ln (tf_GG N) 3) := tf_in (n := k + 3) (N := N) rfl rfl (by omega) (by omega)
  have i4 : vp_in (nI (k + 4)) (tf_ln (tf_GG N) 3) := tf_in (n := k + 4) (N := N) rfl rfl (by omega) (by omega)
  refine tf_go hx ftL_case22 1 [] 967 [some (.ref 3), some (.ref 4), some (.ref 125), some (.int (nI k))] [.ref 4] Y rfl ⟨by decide, by decide, rfl⟩ trivial ?_
  refine tf_go hx ftL_case22 4 [] 971 [some (.ref 3), some (.ref 4), some (.ref 125), some (.int (nI k))] [.int ((nI k) + 1), .ref 3, .ref 4] Y rfl ⟨by decide, by decide, rfl⟩ trivial ?_
  rw [show ((nI k) + 1) = nI (k + 1) from (tf_add (a := k) (b := 1) rfl (rfl : (1 : Int32) = nI 1))]
  refine tf_go hx ftL_case22 1 [] 972 [some (.ref 3), some (.ref 4), some (.ref 125), some (.int (nI k))] [.int (Y 3 (Int32.toNatClampNeg (nI (k + 1)))), .ref 4] Y rfl ⟨by decide, by decide, rfl⟩ ⟨trivial, ⟨Or.inr (by first | assumption | rfl | decide | omega | exact Nat.succ_ne_zero _), by first | assumption | exact tf_in (n := (k + 1)) rfl (by first | assumption | rfl) (by omega) (by decide)⟩⟩ ?_
  rw [show (Y 3 (Int32.toNatClampNeg (nI (k + 1)))) = (z (k + 1)) from (by rw [tf_cl_nI (by omega)]; exact hz (k + 1))]
  refine tf_go hx ftL_case22 4 [] 976 [some (.ref 3), some (.ref 4), some (.ref 125), some (.int (nI k))] [.int ((nI k) + 2), .ref 3, .int (z (k + 1)), .ref 4] Y rfl ⟨by decide, by decide, rfl⟩ trivial ?_
  rw [show ((nI k) + 2) = nI (k + 2) from (tf_add (a := k) (b := 2) rfl (rfl : (2 : Int32) = nI 2))]
  refine tf_go hx ftL_case22 1 [] 977 [some (.ref 3), some (.ref 4), some (.ref 125), some (.int (nI k))] [.int (Y 3 (Int32.toNatClampNeg (nI (k + 2)))), .int (z (k + 1)), .ref 4] Y rfl ⟨by decide, by decide, rfl⟩ ⟨trivial, ⟨Or.inr (by first | assumption | rfl | decide | omega | exact Nat.succ_ne_zero _), by first | assumption | exact tf_in (n := (k + 2)) rfl (by first | assumption | rfl) (by omega) (by decide)⟩⟩ ?_
  rw [show (Y 3 (Int32.toNatClampNeg (nI (k + 2)))) = (z (k + 2)) from (by rw [tf_cl_nI (by omega)]; exact hz (k + 2))]
  obtain ⟨X1, hF1, hc1, hf1⟩ := c_far (N := N) (S := Y) (z (k + 1)) (z (k + 2)) hA hC
  refine tf_cV hx ftL_case22 (nx := 980) (As := [.int (z (k + 1)), .int (z (k + 2))]) (rest := []) (st2 := [.int ((s_far A (z (k + 1)) (z (k + 2))).1)]) (hF1) rfl lL_113 (by first | assumption | rfl | decide) rfl ⟨rfl, by decide, by decide, by decide, rfl, rfl⟩ ?_
  have hz1 : ∀ j, X1 3 j = z j := fun j => by rw [hf1 3 (by omega)]; exact hz j
  obtain ⟨Y1, hG1, hm1, hg1⟩ := p_far (G := (tf_GG N)) (S := X1) (o := 125) (z (k + 1)) (z (k + 2)) mdG.1 mdG.2 hA (ms_fc hM hf1)
  refine tf_go hx ftL_case22 1 [] 981 [some (.ref 3), some (.ref 4), some (.ref 125), some (.int (nI k))] [.ref 125, .int ((s_far A (z (k + 1)) (z (k + 2))).1)] X1 rfl ⟨by decide, by decide, rfl⟩ trivial ?_
  refine tf_go hx ftL_case22 4 [] 985 [some (.ref 3), some (.ref 4), some (.ref 125), some (.int (nI k))] [.int ((nI k) + 1), .ref 3, .ref 125, .int ((s_far A (z (k + 1)) (z (k + 2))).1)] X1 rfl ⟨by decide, by decide, rfl⟩ trivial ?_
  rw [show ((nI k) + 1) = nI (k + 1) from (tf_add (a := k) (b := 1) rfl (rfl : (1 : Int32) = nI 1))]
  refine tf_go hx ftL_case22 1 [] 986 [some (.ref 3), some (.ref 4), some (.ref 125), some (.int (nI k))] [.int (X1 3 (Int32.toNatClampNeg (nI (k + 1)))), .ref 125, .int ((s_far A (z (k + 1)) (z (k + 2))).1)] X1 rfl ⟨by decide, by decide, rfl⟩ ⟨trivial, ⟨Or.inr (by first | assumption | rfl | decide | omega | exact Nat.succ_ne_zero _), by first | assumption | exact tf_in (n := (k + 1)) rfl (by first | assumption | rfl) (by omega) (by decide)⟩⟩ ?_
  rw [show (X1 3 (Int32.toNatClampNeg (nI (k + 1)))) = (z (k + 1)) from (by rw [tf_cl_nI (by omega)]; exact hz1 (k + 1))]
  refine tf_go hx ftL_case22 4 [] 990 [some (.ref 3), some (.ref 4), some (.ref 125), some (.int (nI k))] [.int ((nI k) + 2), .ref 3, .int (z (k + 1)), .ref 125, .int ((s_far A (z (k + 1)) (z (k + 2))).1)] X1 rfl ⟨by decide, by decide, rfl⟩ trivial ?_
  rw [show ((nI k) + 2) = nI (k + 2) from (tf_add (a := k) (b := 2) rfl (rfl : (2 : Int32) = nI 2))]
  refine tf_go hx ftL_case22 1 [] 991 [some (.ref 3), some (.ref 4), some (.ref 125), some (.int (nI k))] [.int (X1 3 (Int32.toNatClampNeg (nI (k + 2)))), .int (z (k + 1)), .ref 125, .int ((s_far A (z (k + 1)) (z (k + 2))).1)] X1 rfl ⟨by decide, by decide, rfl⟩ ⟨trivial, ⟨Or.inr (by first | assumption | rfl | decide | omega | exact Nat.succ_ne_zero _), by first | assumption | exact tf_in (n := (k + 2)) rfl (by first | assumption | rfl) (by omega) (by decide)⟩⟩ ?_
  rw [show (X1 3 (Int32.toNatClampNeg (nI (k + 2)))) = (z (k + 2)) from (by rw [tf_cl_nI (by omega)]; exact hz1 (k + 2))]
  refine tf_cV hx ftL_case22 (nx := 994) (As := [.int (z (k + 1)), .int (z (k + 2))]) (rest := [.int ((s_far A (z (k + 1)) (z (k + 2))).1)]) (st2 := [.int ((s_far A (z (k + 1)) (z (k + 2))).1), .int ((s_far A (z (k + 1)) (z (k + 2))).1)]) (hG1) rfl lL_116 (by first | assumption | rfl | decide) rfl ⟨rfl, by decide, by decide, by decide, rfl, rfl⟩ ?_
  refine tf_go hx ftL_case22 1 [true] 1302 [some (.ref 3), some (.ref 4), some (.ref 125), some (.int (nI k))] [] Y1 rfl ⟨by decide, by decide, rfl⟩ ⟨trivial, rfl⟩ ?_
  refine tf_go hx ftL_case22 2 [] 18 [some (.ref 3), some (.ref 4), some (.ref 125), some (.int ((nI k) + 5))] [] Y1 rfl ⟨by decide, by decide, rfl⟩ trivial ?_
  rw [show ((nI k) + 5) = nI (k + 5) from (tf_add (a := k) (b := 5) rfl (rfl : (5 : Int32) = nI 5))]
  have hz2 : ∀ j, Y1 3 j = z j := fun j => by rw [fm_le hg1 3 (by omega)]; exact hz1 j
  exact ih Y1 (s_far A (z (k + 1)) (z (k + 2))).2 (ok_far (z (k + 1)) (z (k + 2)) hA) (cs_fm (ok_far (z (k + 1)) (z (k + 2)) hA) hc1 hg1) hm1 hz2

set_option maxHeartbeats 2000000 in
theorem law_c23 {N k : Nat} {z : Nat → Int32} {x : tf_X} {Y : tf_Sg} {A : tf_A} (hx : tf_C x cL_law RL 4 9 200 5000 false) (hN : N ≤ 320) (hk : k + 5 ≤ N) (hA : tf_okA A) (hC : tf_cs Y A) (hM : tf_ms (tf_GG N) Y 125 A) (hz : ∀ j, Y 3 j = z j) (ih : ∀ (Y : tf_Sg) (A : tf_A), tf_okA A → tf_cs Y A → tf_ms (tf_GG N) Y 125 A → (∀ j, Y 3 j = z j) → tf_K x 200 5000 (tf_GG N) Y 18 [some (.ref 3), some (.ref 4), some (.ref 125), some (.int (nI (k + 5)))] []) : tf_K x 200 5000 (tf_GG N) Y 999 [some (.ref 3), some (.ref 4), some (.ref 125), some (.int (nI k))] [] := by
  have i1 : vp_in (nI (k + 1)) (tf_ln (tf_GG N) 3) := tf_in (n := k + 1) (N := N) rfl rfl (by omega) (by omega)
  have i2 : vp_in (nI (k + 2)) (tf_ln (tf_GG N) 3) := tf_in (n := k + 2) (N := N) rfl rfl (by omega) (by omega)
  have i3 : vp_in (nI (k + 3)) (tf_ln (tf_GG N) 3) := tf_in (n := k + 3) (N := N) rfl rfl (by omega) (by omega)
  have i4 : vp_in (nI (k + 4)) (tf_ln (tf_GG N) 3) := tf_in (n := k + 4) (N := N) rfl rfl (by omega) (by omega)
  refine tf_go hx ftL_case23 1 [] 1000 [some (.ref 3), some (.ref 4), some (.ref 125), some (.int (nI k))] [.ref 4] Y rfl ⟨by decide, by decide, rfl⟩ trivial ?_
  refine tf_go hx ftL_case23 4 [] 1004 [some (.ref 3), some (.ref 4), some (.ref 125), some (.int (nI k))] [.int ((nI k) + 1), .ref 3, .ref 4] Y rfl ⟨by decide, by decide, rfl⟩ trivial ?_
  rw [show ((nI k) + 1) = nI (k + 1) from (tf_add (a := k) (b := 1) rfl (rfl : (1 : Int32) = nI 1))]
  refine tf_go hx ftL_case23 1 [] 1005 [some (.ref 3), some (.ref 4), some (.ref 125), some (.int (nI k))] [.int (Y 3 (Int32.toNatClampNeg (nI (k + 1)))), .ref 4] Y rfl ⟨by decide, by decide, rfl⟩ ⟨trivial, ⟨Or.inr (by first | assumption | rfl | decide | omega | exact Nat.succ_ne_zero _), by first | assumption | exact tf_in (n := (k + 1)) rfl (by first | assumption | rfl) (by omega) (by decide)⟩⟩ ?_
  rw [show (Y 3 (Int32.toNatClampNeg (nI (k + 1)))) = (z (k + 1)) from (by rw [tf_cl_nI (by omega)]; exact hz (k + 1))]
  obtain ⟨X1, hF1, hc1, hf1⟩ := c_nearest (N := N) (S := Y) (z (k + 1)) hA hC
  refine tf_cV hx ftL_case23 (nx := 1008) (As := [.int (z (k + 1))]) (rest := []) (st2 := [.int ((s_nearest A (z (k + 1))).1)]) (hF1) rfl lL_117 (by first | assumption | rfl | decide) rfl ⟨rfl, by decide, by decide, by decide, rfl, rfl⟩ ?_
  have hz1 : ∀ j, X1 3 j = z j := fun j => by rw [hf1 3 (by omega)]; exact hz j
  obtain ⟨Y1, hG1, hm1, hg1⟩ := p_nearest (G := (tf_GG N)) (S := X1) (o := 125) (z (k + 1)) mdG.1 mdG.2 hA (ms_fc hM hf1)
  refine tf_go hx ftL_case23 1 [] 1009 [some (.ref 3), some (.ref 4), some (.ref 125), some (.int (nI k))] [.ref 125, .int ((s_nearest A (z (k + 1))).1)] X1 rfl ⟨by decide, by decide, rfl⟩ trivial ?_
  refine tf_go hx ftL_case23 4 [] 1013 [some (.ref 3), some (.ref 4), some (.ref 125), some (.int (nI k))] [.int ((nI k) + 1), .ref 3, .ref 125, .int ((s_nearest A (z (k + 1))).1)] X1 rfl ⟨by decide, by decide, rfl⟩ trivial ?_
  rw [show ((nI k) + 1) = nI (k + 1) from (tf_add (a := k) (b := 1) rfl (rfl : (1 : Int32) = nI 1))]
  refine tf_go hx ftL_case23 1 [] 1014 [some (.ref 3), some (.ref 4), some (.ref 125), some (.int (nI k))] [.int (X1 3 (Int32.toNatClampNeg (nI (k + 1)))), .ref 125, .int ((s_nearest A (z (k + 1))).1)] X1 rfl ⟨by decide, by decide, rfl⟩ ⟨trivial, ⟨Or.inr (by first | assumption | rfl | decide | omega | exact Nat.succ_ne_zero _), by first | assumption | exact tf_in (n := (k + 1)) rfl (by first | assumption | rfl) (by omega) (by decide)⟩⟩ ?_
  rw [show (X1 3 (Int32.toNatClampNeg (nI (k + 1)))) = (z (k + 1)) from (by rw [tf_cl_nI (by omega)]; exact hz1 (k + 1))]
  refine tf_cV hx ftL_case23 (nx := 1017) (As := [.int (z (k + 1))]) (rest := [.int ((s_nearest A (z (k + 1))).1)]) (st2 := [.int ((s_nearest A (z (k + 1))).1), .int ((s_nearest A (z (k + 1))).1)]) (hG1) rfl lL_120 (by first | assumption | rfl | decide) rfl ⟨rfl, by decide, by decide, by decide, rfl, rfl⟩ ?_
  refine tf_go hx ftL_case23 1 [true] 1302 [some (.ref 3), some (.ref 4), some (.ref 125), some (.int (nI k))] [] Y1 rfl ⟨by decide, by decide, rfl⟩ ⟨trivial, rfl⟩ ?_
  refine tf_go hx ftL_case23 2 [] 18 [some (.ref 3), some (.ref 4), some (.ref 125), some (.int ((nI k) + 5))] [] Y1 rfl ⟨by decide, by decide, rfl⟩ trivial ?_
  rw [show ((nI k) + 5) = nI (k + 5) from (tf_add (a := k) (b := 5) rfl (rfl : (5 : Int32) = nI 5))]
  have hz2 : ∀ j, Y1 3 j = z j := fun j => by rw [fm_le hg1 3 (by omega)]; exact hz1 j
  exact ih Y1 (s_nearest A (z (k + 1))).2 (ok_nearest (z (k + 1)) hA) (cs_fm (ok_nearest (z (k + 1)) hA) hc1 hg1) hm1 hz2

set_option maxHeartbeats 2000000 in
theorem law_c24 {N k : Nat} {z : Nat → Int32} {x : tf_X} {Y : tf_Sg} {A : tf_A} (hx : tf_C x cL_law RL 4 9 200 5000 false) (hN : N ≤ 320) (hk : k + 5 ≤ N) (hA : tf_okA A) (hC : tf_cs Y A) (hM : tf_ms (tf_GG N) Y 125 A) (hz : ∀ j, Y 3 j = z j) (ih : ∀ (Y : tf_Sg) (A : tf_A), tf_okA A → tf_cs Y A → tf_ms (tf_GG N) Y 125 A → (∀ j, Y 3 j = z j) → tf_K x 200 5000 (tf_GG N) Y 18 [some (.ref 3), some (.ref 4), some (.ref 125), some (.int (nI (k + 5)))] []) : tf_K x 200 5000 (tf_GG N) Y 1022 [some (.ref 3), some (.ref 4), some (.ref 125), some (.int (nI k))] [] := by
  have i1 : vp_in (nI (k + 1)) (tf_ln (tf_GG N) 3) := tf_in (n := k + 1) (N := N) rfl rfl (by omega) (by omega)
  have i2 : vp_in (nI (k + 2)) (tf_ln (tf_GG N) 3) := tf_in (n := k + 2) (N := N) rfl rfl (by omega) (by omega)
  have i3 : vp_in (nI (k + 3)) (tf_ln (tf_GG N) 3) := tf_in (n := k + 3) (N := N) rfl rfl (by omega) (by omega)
  have i4 : vp_in (nI (k + 4)) (tf_ln (tf_GG N) 3) := tf_in (n := k + 4) (N := N) rfl rfl (by omega) (by omega)
  by_cases zb : z (k + 3) = 0
  · refine tf_go hx ftL_case24 1 [] 1023 [some (.ref 3), some (.ref 4), some (.ref 125), some (.int (nI k))] [.ref 4] Y rfl ⟨by decide, by decide, rfl⟩ trivial ?_
    refine tf_go hx ftL_case24 4 [] 1027 [some (.ref 3), some (.ref 4), some (.ref 125), some (.int (nI k))] [.int ((nI k) + 1), .ref 3, .ref 4] Y rfl ⟨by decide, by decide, rfl⟩ trivial ?_
    rw [show ((nI k) + 1) = nI (k + 1) from (tf_add (a := k) (b := 1) rfl (rfl : (1 : Int32) = nI 1))]
    refine tf_go hx ftL_case24 1 [] 1028 [some (.ref 3), some (.ref 4), some (.ref 125), some (.int (nI k))] [.int (Y 3 (Int32.toNatClampNeg (nI (k + 1)))), .ref 4] Y rfl ⟨by decide, by decide, rfl⟩ ⟨trivial, ⟨Or.inr (by first | assumption | rfl | decide | omega | exact Nat.succ_ne_zero _), by first | assumption | exact tf_in (n := (k + 1)) rfl (by first | assumption | rfl) (by omega) (by decide)⟩⟩ ?_
    rw [show (Y 3 (Int32.toNatClampNeg (nI (k + 1)))) = (z (k + 1)) from (by rw [tf_cl_nI (by omega)]; exact hz (k + 1))]
    refine tf_go hx ftL_case24 4 [] 1032 [some (.ref 3), some (.ref 4), some (.ref 125), some (.int (nI k))] [.int ((nI k) + 2), .ref 3, .int (z (k + 1)), .ref 4] Y rfl ⟨by decide, by decide, rfl⟩ trivial ?_
    rw [show ((nI k) + 2) = nI (k + 2) from (tf_add (a := k) (b := 2) rfl (rfl : (2 : Int32) = nI 2))]
    refine tf_go hx ftL_case24 1 [] 1033 [some (.ref 3), some (.ref 4), some (.ref 125), some (.int (nI k))] [.int (Y 3 (Int32.toNatClampNeg (nI (k + 2)))), .int (z (k + 1)), .ref 4] Y rfl ⟨by decide, by decide, rfl⟩ ⟨trivial, ⟨Or.inr (by first | assumption | rfl | decide | omega | exact Nat.succ_ne_zero _), by first | assumption | exact tf_in (n := (k + 2)) rfl (by first | assumption | rfl) (by omega) (by decide)⟩⟩ ?_
    rw [show (Y 3 (Int32.toNatClampNeg (nI (k + 2)))) = (z (k + 2)) from (by rw [tf_cl_nI (by omega)]; exact hz (k + 2))]
    refine tf_go hx ftL_case24 4 [] 1037 [some (.ref 3), some (.ref 4), some (.ref 125), some (.int (nI k))] [.int ((nI k) + 3), .ref 3, .int (z (k + 2)), .int (z (k + 1)), .ref 4] Y rfl ⟨by decide, by decide, rfl⟩ trivial ?_
    rw [show ((nI k) + 3) = nI (k + 3) from (tf_add (a := k) (b := 3) rfl (rfl : (3 : Int32) = nI 3))]
    refine tf_go hx ftL_case24 1 [] 1038 [some (.ref 3), some (.ref 4), some (.ref 125), some (.int (nI k))] [.int (Y 3 (Int32.toNatClampNeg (nI (k + 3)))), .int (z (k + 2)), .int (z (k + 1)), .ref 4] Y rfl ⟨by decide, by decide, rfl⟩ ⟨trivial, ⟨Or.inr (by first | assumption | rfl | decide | omega | exact Nat.succ_ne_zero _), by first | assumption | exact tf_in (n := (k + 3)) rfl (by first | assumption | rfl) (by omega) (by decide)⟩⟩ ?_
    rw [show (Y 3 (Int32.toNatClampNeg (nI (k + 3)))) = (z (k + 3)) from (by rw [tf_cl_nI (by omega)]; exact hz (k + 3))]
    refine tf_go hx ftL_case24 1 [true] 1045 [some (.ref 3), some (.ref 4), some (.ref 125), some (.int (nI k))] [.int (z (k + 2)), .int (z (k + 1)), .ref 4] Y rfl ⟨by decide, by decide, rfl⟩ ⟨trivial, zb⟩ ?_
    refine tf_go hx ftL_case24 1 [] 1046 [some (.ref 3), some (.ref 4), some (.ref 125), some (.int (nI k))] [.int 0, .int (z (k + 2)), .int (z (k + 1)), .ref 4] Y rfl ⟨by decide, by decide, rfl⟩ trivial ?_
    obtain ⟨X1, hF1, hc1, hf1⟩ := c_span (N := N) (S := Y) (z (k + 1)) (z (k + 2)) 0 hA hC (by decide)
    refine tf_cV hx ftL_case24 (nx := 1049) (As := [.int (z (k + 1)), .int (z (k + 2)), .int 0]) (rest := []) (st2 := [.int ((s_span A (z (k + 1)) (z (k + 2)) 0).1)]) (hF1) rfl lL_121 (by first | assumption | rfl | decide) rfl ⟨rfl, by decide, by decide, by decide, rfl, rfl⟩ ?_
    have hz1 : ∀ j, X1 3 j = z j := fun j => by rw [hf1 3 (by omega)]; exact hz j
    obtain ⟨Y1, hG1, hm1, hg1⟩ := p_span (G := (tf_GG N)) (S := X1) (o := 125) (z (k + 1)) (z (k + 2)) 0 mdG.1 mdG.2 hA (ms_fc hM hf1) (by decide)
    refine tf_go hx ftL_case24 1 [] 1050 [some (.ref 3), some (.ref 4), some (.ref 125), some (.int (nI k))] [.ref 125, .int ((s_span A (z (k + 1)) (z (k + 2)) 0).1)] X1 rfl ⟨by decide, by decide, rfl⟩ trivial ?_
    refine tf_go hx ftL_case24 4 [] 1054 [some (.ref 3), some (.ref 4), some (.ref 125), some (.int (nI k))] [.int ((nI k) + 1), .ref 3, .ref 125, .int ((s_span A (z (k + 1)) (z (k + 2)) 0).1)] X1 rfl ⟨by decide, by decide, rfl⟩ trivial ?_
    rw [show ((nI k) + 1) = nI (k + 1) from (tf_add (a := k) (b := 1) rfl (rfl : (1 : Int32) = nI 1))]
    refine tf_go hx ftL_case24 1 [] 1055 [some (.ref 3), some (.ref 4), some (.ref 125), some (.int (nI k))] [.int (X1 3 (Int32.toNatClampNeg (nI (k + 1)))), .ref 125, .int ((s_span A (z (k + 1)) (z (k + 2)) 0).1)] X1 rfl ⟨by decide, by decide, rfl⟩ ⟨trivial, ⟨Or.inr (by first | assumption | rfl | decide | omega | exact Nat.succ_ne_zero _), by first | assumption | exact tf_in (n := (k + 1)) rfl (by first | assumption | rfl) (by omega) (by decide)⟩⟩ ?_
    rw [show (X1 3 (Int32.toNatClampNeg (nI (k + 1)))) = (z (k + 1)) from (by rw [tf_cl_nI (by omega)]; exact hz1 (k + 1))]
    refine tf_go hx ftL_case24 4 [] 1059 [some (.ref 3), some (.ref 4), some (.ref 125), some (.int (nI k))] [.int ((nI k) + 2), .ref 3, .int (z (k + 1)), .ref 125, .int ((s_span A (z (k + 1)) (z (k + 2)) 0).1)] X1 rfl ⟨by decide, by decide, rfl⟩ trivial ?_
    rw [show ((nI k) + 2) = nI (k + 2) from (tf_add (a := k) (b := 2) rfl (rfl : (2 : Int32) = nI 2))]
    refine tf_go hx ftL_case24 1 [] 1060 [some (.ref 3), some (.ref 4), some (.ref 125), some (.int (nI k))] [.int (X1 3 (Int32.toNatClampNeg (nI (k + 2)))), .int (z (k + 1)), .ref 125, .int ((s_span A (z (k + 1)) (z (k + 2)) 0).1)] X1 rfl ⟨by decide, by decide, rfl⟩ ⟨trivial, ⟨Or.inr (by first | assumption | rfl | decide | omega | exact Nat.succ_ne_zero _), by first | assumption | exact tf_in (n := (k + 2)) rfl (by first | assumption | rfl) (by omega) (by decide)⟩⟩ ?_
    rw [show (X1 3 (Int32.toNatClampNeg (nI (k + 2)))) = (z (k + 2)) from (by rw [tf_cl_nI (by omega)]; exact hz1 (k + 2))]
    refine tf_go hx ftL_case24 4 [] 1064 [some (.ref 3), some (.ref 4), some (.ref 125), some (.int (nI k))] [.int ((nI k) + 3), .ref 3, .int (z (k + 2)), .int (z (k + 1)), .ref 125, .int ((s_span A (z (k + 1)) (z (k + 2)) 0).1)] X1 rfl ⟨by decide, by decide, rfl⟩ trivial ?_
    rw [show ((nI k) + 3) = nI (k + 3) from (tf_add (a := k) (b := 3) rfl (rfl : (3 : Int32) = nI 3))]
    refine tf_go hx ftL_case24 1 [] 1065 [some (.ref 3), some (.ref 4), some (.ref 125), some (.int (nI k))] [.int (X1 3 (Int32.toNatClampNeg (nI (k + 3)))), .int (z (k + 2)), .int (z (k + 1)), .ref 125, .int ((s_span A (z (k + 1)) (z (k + 2)) 0).1)] X1 rfl ⟨by decide, by decide, rfl⟩ ⟨trivial, ⟨Or.inr (by first | assumption | rfl | decide | omega | exact Nat.succ_ne_zero _), by first | assumption | exact tf_in (n := (k + 3)) rfl (by first | assumption | rfl) (by omega) (by decide)⟩⟩ ?_
    rw [show (X1 3 (Int32.toNatClampNeg (nI (k + 3)))) = (z (k + 3)) from (by rw [tf_cl_nI (by omega)]; exact hz1 (k + 3))]
    refine tf_go hx ftL_case24 1 [true] 1072 [some (.ref 3), some (.ref 4), some (.ref 125), some (.int (nI k))] [.int (z (k + 2)), .int (z (k + 1)), .ref 125, .int ((s_span A (z (k + 1)) (z (k + 2)) 0).1)] X1 rfl ⟨by decide, by decide, rfl⟩ ⟨trivial, zb⟩ ?_
    refine tf_go hx ftL_case24 1 [] 1073 [some (.ref 3), some (.ref 4), some (.ref 125), some (.int (nI k))] [.int 0, .int (z (k + 2)), .int (z (k + 1)), .ref 125, .int ((s_span A (z (k + 1)) (z (k + 2)) 0).1)] X1 rfl ⟨by decide, by decide, rfl⟩ trivial ?_
    refine tf_cV hx ftL_case24 (nx := 1076) (As := [.int (z (k + 1)), .int (z (k + 2)), .int 0]) (rest := [.int ((s_span A (z (k + 1)) (z (k + 2)) 0).1)]) (st2 := [.int ((s_span A (z (k + 1)) (z (k + 2)) 0).1), .int ((s_span A (z (k + 1)) (z (k + 2)) 0).1)]) (hG1) rfl lL_124 (by first | assumption | rfl | decide) rfl ⟨rfl, by decide, by decide, by decide, rfl, rfl⟩ ?_
    refine tf_go hx ftL_case24 1 [true] 1302 [some (.ref 3), some (.ref 4), some (.ref 125), some (.int (nI k))] [] Y1 rfl ⟨by decide, by decide, rfl⟩ ⟨trivial, rfl⟩ ?_
    refine tf_go hx ftL_case24 2 [] 18 [some (.ref 3), some (.ref 4), some (.ref 125), some (.int ((nI k) + 5))] [] Y1 rfl ⟨by decide, by decide, rfl⟩ trivial ?_
    rw [show ((nI k) + 5) = nI (k + 5) from (tf_add (a := k) (b := 5) rfl (rfl : (5 : Int32) = nI 5))]
    have hz2 : ∀ j, Y1 3 j = z j := fun j => by rw [fm_le hg1 3 (by omega)]; exact hz1 j
    exact ih Y1 (s_span A (z (k + 1)) (z (k + 2)) 0).2 (ok_span (z (k + 1)) (z (k + 2)) 0 hA) (cs_fm (ok_span (z (k + 1)) (z (k + 2)) 0 hA) hc1 hg1) hm1 hz2
  · refine tf_go hx ftL_case24 1 [] 1023 [some (.ref 3), some (.ref 4), some (.ref 125), some (.int (nI k))] [.ref 4] Y rfl ⟨by decide, by decide, rfl⟩ trivial ?_
    refine tf_go hx ftL_case24 4 [] 1027 [some (.ref 3), some (.ref 4), some (.ref 125), some (.int (nI k))] [.int ((nI k) + 1), .ref 3, .ref 4] Y rfl ⟨by decide, by decide, rfl⟩ trivial ?_
    rw [show ((nI k) + 1) = nI (k + 1) from (tf_add (a := k) (b := 1) rfl (rfl : (1 : Int32) = nI 1))]
    refine tf_go hx ftL_case24 1 [] 1028 [some (.ref 3), some (.ref 4), some (.ref 125), some (.int (nI k))] [.int (Y 3 (Int32.toNatClampNeg (nI (k + 1)))), .ref 4] Y rfl ⟨by decide, by decide, rfl⟩ ⟨trivial, ⟨Or.inr (by first | assumption | rfl | decide | omega | exact Nat.succ_ne_zero _), by first | assumption | exact tf_in (n := (k + 1)) rfl (by first | assumption | rfl) (by omega) (by decide)⟩⟩ ?_
    rw [show (Y 3 (Int32.toNatClampNeg (nI (k + 1)))) = (z (k + 1)) from (by rw [tf_cl_nI (by omega)]; exact hz (k + 1))]
    refine tf_go hx ftL_case24 4 [] 1032 [some (.ref 3), some (.ref 4), some (.ref 125), some (.int (nI k))] [.int ((nI k) + 2), .ref 3, .int (z (k + 1)), .ref 4] Y rfl ⟨by decide, by decide, rfl⟩ trivial ?_
    rw [show ((nI k) + 2) = nI (k + 2) from (tf_add (a := k) (b := 2) rfl (rfl : (2 : Int32) = nI 2))]
    refine tf_go hx ftL_case24 1 [] 1033 [some (.ref 3), some (.ref 4), some (.ref 125), some (.int (nI k))] [.int (Y 3 (Int32.toNatClampNeg (nI (k + 2)))), .int (z (k + 1)), .ref 4] Y rfl ⟨by decide, by decide, rfl⟩ ⟨trivial, ⟨Or.inr (by first | assumption | rfl | decide | omega | exact Nat.succ_ne_zero _), by first | assumption | exact tf_in (n := (k + 2)) rfl (by first | assumption | rfl) (by omega) (by decide)⟩⟩ ?_
    rw [show (Y 3 (Int32.toNatClampNeg (nI (k + 2)))) = (z (k + 2)) from (by rw [tf_cl_nI (by omega)]; exact hz (k + 2))]
    refine tf_go hx ftL_case24 4 [] 1037 [some (.ref 3), some (.ref 4), some (.ref 125), some (.int (nI k))] [.int ((nI k) + 3), .ref 3, .int (z (k + 2)), .int (z (k + 1)), .ref 4] Y rfl ⟨by decide, by decide, rfl⟩ trivial ?_
    rw [show ((nI k) + 3) = nI (k + 3) from (tf_add (a := k) (b := 3) rfl (rfl : (3 : Int32) = nI 3))]
    refine tf_go hx ftL_case24 1 [] 1038 [some (.ref 3), some (.ref 4), some (.ref 125), some (.int (nI k))] [.int (Y 3 (Int32.toNatClampNeg (nI (k + 3)))), .int (z (k + 2)), .int (z (k + 1)), .ref 4] Y rfl ⟨by decide, by decide, rfl⟩ ⟨trivial, ⟨Or.inr (by first | assumption | rfl | decide | omega | exact Nat.succ_ne_zero _), by first | assumption | exact tf_in (n := (k + 3)) rfl (by first | assumption | rfl) (by omega) (by decide)⟩⟩ ?_
    rw [show (Y 3 (Int32.toNatClampNeg (nI (k + 3)))) = (z (k + 3)) from (by rw [tf_cl_nI (by omega)]; exact hz (k + 3))]
    refine tf_go hx ftL_case24 1 [false] 1041 [some (.ref 3), some (.ref 4), some (.ref 125), some (.int (nI k))] [.int (z (k + 2)), .int (z (k + 1)), .ref 4] Y rfl ⟨by decide, by decide, rfl⟩ ⟨trivial, zb⟩ ?_
    refine tf_go hx ftL_case24 2 [] 1046 [some (.ref 3), some (.ref 4), some (.ref 125), some (.int (nI k))] [.int 1, .int (z (k + 2)), .int (z (k + 1)), .ref 4] Y rfl ⟨by decide, by decide, rfl⟩ trivial ?_
    obtain ⟨X1, hF1, hc1, hf1⟩ := c_span (N := N) (S := Y) (z (k + 1)) (z (k + 2)) 1 hA hC (by decide)
    refine tf_cV hx ftL_case24 (nx := 1049) (As := [.int (z (k + 1)), .int (z (k + 2)), .int 1]) (rest := []) (st2 := [.int ((s_span A (z (k + 1)) (z (k + 2)) 1).1)]) (hF1) rfl lL_121 (by first | assumption | rfl | decide) rfl ⟨rfl, by decide, by decide, by decide, rfl, rfl⟩ ?_
    have hz1 : ∀ j, X1 3 j = z j := fun j => by rw [hf1 3 (by omega)]; exact hz j
    obtain ⟨Y1, hG1, hm1, hg1⟩ := p_span (G := (tf_GG N)) (S := X1) (o := 125) (z (k + 1)) (z (k + 2)) 1 mdG.1 mdG.2 hA (ms_fc hM hf1) (by decide)
    refine tf_go hx ftL_case24 1 [] 1050 [some (.ref 3), some (.ref 4), some (.ref 125), some (.int (nI k))] [.ref 125, .int ((s_span A (z (k + 1)) (z (k + 2)) 1).1)] X1 rfl ⟨by decide, by decide, rfl⟩ trivial ?_
    refine tf_go hx ftL_case24 4 [] 1054 [some (.ref 3), some (.ref 4), some (.ref 125), some (.int (nI k))] [.int ((nI k) + 1), .ref 3, .ref 125, .int ((s_span A (z (k + 1)) (z (k + 2)) 1).1)] X1 rfl ⟨by decide, by decide, rfl⟩ trivial ?_
    rw [show ((nI k) + 1) = nI (k + 1) from (tf_add (a := k) (b := 1) rfl (rfl : (1 : Int32) = nI 1))]
    refine tf_go hx ftL_case24 1 [] 1055 [some (.ref 3), some (.ref 4), some (.ref 125), some (.int (nI k))] [.int (X1 3 (Int32.toNatClampNeg (nI (k + 1)))), .ref 125, .int ((s_span A (z (k + 1)) (z (k + 2)) 1).1)] X1 rfl ⟨by decide, by decide, rfl⟩ ⟨trivial, ⟨Or.inr (by first | assumption | rfl | decide | omega | exact Nat.succ_ne_zero _), by first | assumption | exact tf_in (n := (k + 1)) rfl (by first | assumption | rfl) (by omega) (by decide)⟩⟩ ?_
    rw [show (X1 3 (Int32.toNatClampNeg (nI (k + 1)))) = (z (k + 1)) from (by rw [tf_cl_nI (by omega)]; exact hz1 (k + 1))]
    refine tf_go hx ftL_case24 4 [] 1059 [some (.ref 3), some (.ref 4), some (.ref 125), some (.int (nI k))] [.int ((nI k) + 2), .ref 3, .int (z (k + 1)), .ref 125, .int ((s_span A (z (k + 1)) (z (k + 2)) 1).1)] X1 rfl ⟨by decide, by decide, rfl⟩ trivial ?_
    rw [show ((nI k) + 2) = nI (k + 2) from (tf_add (a := k) (b := 2) rfl (rfl : (2 : Int32) = nI 2))]
    refine tf_go hx ftL_case24 1 [] 1060 [some (.ref 3), some (.ref 4), some (.ref 125), some (.int (nI k))] [.int (X1 3 (Int32.toNatClampNeg (nI (k + 2)))), .int (z (k + 1)), .ref 125, .int ((s_span A (z (k + 1)) (z (k + 2)) 1).1)] X1 rfl ⟨by decide, by decide, rfl⟩ ⟨trivial, ⟨Or.inr (by first | assumption | rfl | decide | omega | exact Nat.succ_ne_zero _), by first | assumption | exact tf_in (n := (k + 2)) rfl (by first | assumption | rfl) (by omega) (by decide)⟩⟩ ?_
    rw [show (X1 3 (Int32.toNatClampNeg (nI (k + 2)))) = (z (k + 2)) from (by rw [tf_cl_nI (by omega)]; exact hz1 (k + 2))]
    refine tf_go hx ftL_case24 4 [] 1064 [some (.ref 3), some (.ref 4), some (.ref 125), some (.int (nI k))] [.int ((nI k) + 3), .ref 3, .int (z (k + 2)), .int (z (k + 1)), .ref 125, .int ((s_span A (z (k + 1)) (z (k + 2)) 1).1)] X1 rfl ⟨by decide, by decide, rfl⟩ trivial ?_
    rw [show ((nI k) + 3) = nI (k + 3) from (tf_add (a := k) (b := 3) rfl (rfl : (3 : Int32) = nI 3))]
    refine tf_go hx ftL_case24 1 [] 1065 [some (.ref 3), some (.ref 4), some (.ref 125), some (.int (nI k))] [.int (X1 3 (Int32.toNatClampNeg (nI (k + 3)))), .int (z (k + 2)), .int (z (k + 1)), .ref 125, .int ((s_span A (z (k + 1)) (z (k + 2)) 1).1)] X1 rfl ⟨by decide, by decide, rfl⟩ ⟨trivial, ⟨Or.inr (by first | assumption | rfl | decide | omega | exact Nat.succ_ne_zero _), by first | assumption | exact tf_in (n := (k + 3)) rfl (by first | assumption | rfl) (by omega) (by decide)⟩⟩ ?_
    rw [show (X1 3 (Int32.toNatClampNeg (nI (k + 3)))) = (z (k + 3)) from (by rw [tf_cl_nI (by omega)]; exact hz1 (k + 3))]
    refine tf_go hx ftL_case24 1 [false] 1068 [some (.ref 3), some (.ref 4), some (.ref 125), some (.int (nI k))] [.int (z (k + 2)), .int (z (k + 1)), .ref 125, .int ((s_span A (z (k + 1)) (z (k + 2)) 1).1)] X1 rfl ⟨by decide, by decide, rfl⟩ ⟨trivial, zb⟩ ?_
    refine tf_go hx ftL_case24 2 [] 1073 [some (.ref 3), some (.ref 4), some (.ref 125), some (.int (nI k))] [.int 1, .int (z (k + 2)), .int (z (k + 1)), .ref 125, .int ((s_span A (z (k + 1)) (z (k + 2)) 1).1)] X1 rfl ⟨by decide, by decide, rfl⟩ trivial ?_
    refine tf_cV hx ftL_case24 (nx := 1076) (As := [.int (z (k + 1)), .int (z (k + 2)), .int 1]) (rest := [.int ((s_span A (z (k + 1)) (z (k + 2)) 1).1)]) (st2 := [.int ((s_span A (z (k + 1)) (z (k + 2)) 1).1), .int ((s_span A (z (k + 1)) (z (k + 2)) 1).1)]) (hG1) rfl lL_124 (by first | assumption | rfl | decide) rfl ⟨rfl, by decide, by decide, by decide, rfl, rfl⟩ ?_
    refine tf_go hx ftL_case24 1 [true] 1302 [some (.ref 3), some (.ref 4), some (.ref 125), some (.int (nI k))] [] Y1 rfl ⟨by decide, by decide, rfl⟩ ⟨trivial, rfl⟩ ?_
    refine tf_go hx ftL_case24 2 [] 18 [some (.ref 3), some (.ref 4), some (.ref 125), some (.int ((nI k) + 5))] [] Y1 rfl ⟨by decide, by decide, rfl⟩ trivial ?_
    rw [show ((nI k) + 5) = nI (k + 5) from (tf_add (a := k) (b := 5) rfl (rfl : (5 : Int32) = nI 5))]
    have hz2 : ∀ j, Y1 3 j = z j := fun j => by rw [fm_le hg1 3 (by omega)]; exact hz1 j
    exact ih Y1 (s_span A (z (k + 1)) (z (k + 2)) 1).2 (ok_span (z (k + 1)) (z (k + 2)) 1 hA) (cs_fm (ok_span (z (k + 1)) (z (k + 2)) 1 hA) hc1 hg1) hm1 hz2

set_option maxHeartbeats 2000000 in
theorem law_c25 {N k : Nat} {z : Nat → Int32} {x : tf_X} {Y : tf_Sg} {A : tf_A} (hx : tf_C x cL_law RL 4 9 200 5000 false) (hN : N ≤ 320) (hk : k + 5 ≤ N) (hA : tf_okA A) (hC : tf_cs Y A) (hM : tf_ms (tf_GG N) Y 125 A) (hz : ∀ j, Y 3 j = z j) (ih : ∀ (Y : tf_Sg) (A : tf_A), tf_okA A → tf_cs Y A → tf_ms (tf_GG N) Y 125 A → (∀ j, Y 3 j = z j) → tf_K x 200 5000 (tf_GG N) Y 18 [some (.ref 3), some (.ref 4), some (.ref 125), some (.int (nI (k + 5)))] []) : tf_K x 200 5000 (tf_GG N) Y 1081 [some (.ref 3), some (.ref 4), some (.ref 125), some (.int (nI k))] [] := by
  have i1 : vp_in (nI (k + 1)) (tf_ln (tf_GG N) 3) := tf_in (n := k + 1) (N := N) rfl rfl (by omega) (by omega)
  have i2 : vp_in (nI (k + 2)) (tf_ln (tf_GG N) 3) := tf_in (n := k + 2) (N := N) rfl rfl (by omega) (by omega)
  have i3 : vp_in (nI (k + 3)) (tf_ln (tf_GG N) 3) := tf_in (n := k + 3) (N := N) rfl rfl (by omega) (by omega)
  have i4 : vp_in (nI (k + 4)) (tf_ln (tf_GG N) 3) := tf_in (n := k + 4) (N := N) rfl rfl (by omega) (by omega)
  refine tf_go hx ftL_case25 1 [] 1082 [some (.ref 3), some (.ref 4), some (.ref 125), some (.int (nI k))] [.ref 4] Y rfl ⟨by decide, by decide, rfl⟩ trivial ?_
  refine tf_go hx ftL_case25 4 [] 1086 [some (.ref 3), some (.ref 4), some (.ref 125), some (.int (nI k))] [.int ((nI k) + 1), .ref 3, .ref 4] Y rfl ⟨by decide, by decide, rfl⟩ trivial ?_
  rw [show ((nI k) + 1) = nI (k + 1) from (tf_add (a := k) (b := 1) rfl (rfl : (1 : Int32) = nI 1))]
  refine tf_go hx ftL_case25 1 [] 1087 [some (.ref 3), some (.ref 4), some (.ref 125), some (.int (nI k))] [.int (Y 3 (Int32.toNatClampNeg (nI (k + 1)))), .ref 4] Y rfl ⟨by decide, by decide, rfl⟩ ⟨trivial, ⟨Or.inr (by first | assumption | rfl | decide | omega | exact Nat.succ_ne_zero _), by first | assumption | exact tf_in (n := (k + 1)) rfl (by first | assumption | rfl) (by omega) (by decide)⟩⟩ ?_
  rw [show (Y 3 (Int32.toNatClampNeg (nI (k + 1)))) = (z (k + 1)) from (by rw [tf_cl_nI (by omega)]; exact hz (k + 1))]
  refine tf_go hx ftL_case25 4 [] 1091 [some (.ref 3), some (.ref 4), some (.ref 125), some (.int (nI k))] [.int ((nI k) + 2), .ref 3, .int (z (k + 1)), .ref 4] Y rfl ⟨by decide, by decide, rfl⟩ trivial ?_
  rw [show ((nI k) + 2) = nI (k + 2) from (tf_add (a := k) (b := 2) rfl (rfl : (2 : Int32) = nI 2))]
  refine tf_go hx ftL_case25 1 [] 1092 [some (.ref 3), some (.ref 4), some (.ref 125), some (.int (nI k))] [.int (Y 3 (Int32.toNatClampNeg (nI (k + 2)))), .int (z (k + 1)), .ref 4] Y rfl ⟨by decide, by decide, rfl⟩ ⟨trivial, ⟨Or.inr (by first | assumption | rfl | decide | omega | exact Nat.succ_ne_zero _), by first | assumption | exact tf_in (n := (k + 2)) rfl (by first | assumption | rfl) (by omega) (by decide)⟩⟩ ?_
  rw [show (Y 3 (Int32.toNatClampNeg (nI (k + 2)))) = (z (k + 2)) from (by rw [tf_cl_nI (by omega)]; exact hz (k + 2))]
  obtain ⟨X1, hF1, hc1, hf1⟩ := c_ache (N := N) (S := Y) (z (k + 1)) (z (k + 2)) hA hC
  refine tf_cV hx ftL_case25 (nx := 1095) (As := [.int (z (k + 1)), .int (z (k + 2))]) (rest := []) (st2 := [.int ((s_ache A (z (k + 1)) (z (k + 2))).1)]) (hF1) rfl lL_125 (by first | assumption | rfl | decide) rfl ⟨rfl, by decide, by decide, by decide, rfl, rfl⟩ ?_
  have hz1 : ∀ j, X1 3 j = z j := fun j => by rw [hf1 3 (by omega)]; exact hz j
  obtain ⟨Y1, hG1, hm1, hg1⟩ := p_ache (G := (tf_GG N)) (S := X1) (o := 125) (z (k + 1)) (z (k + 2)) mdG.1 mdG.2 hA (ms_fc hM hf1)
  refine tf_go hx ftL_case25 1 [] 1096 [some (.ref 3), some (.ref 4), some (.ref 125), some (.int (nI k))] [.ref 125, .int ((s_ache A (z (k + 1)) (z (k + 2))).1)] X1 rfl ⟨by decide, by decide, rfl⟩ trivial ?_
  refine tf_go hx ftL_case25 4 [] 1100 [some (.ref 3), some (.ref 4), some (.ref 125), some (.int (nI k))] [.int ((nI k) + 1), .ref 3, .ref 125, .int ((s_ache A (z (k + 1)) (z (k + 2))).1)] X1 rfl ⟨by decide, by decide, rfl⟩ trivial ?_
  rw [show ((nI k) + 1) = nI (k + 1) from (tf_add (a := k) (b := 1) rfl (rfl : (1 : Int32) = nI 1))]
  refine tf_go hx ftL_case25 1 [] 1101 [some (.ref 3), some (.ref 4), some (.ref 125), some (.int (nI k))] [.int (X1 3 (Int32.toNatClampNeg (nI (k + 1)))), .ref 125, .int ((s_ache A (z (k + 1)) (z (k + 2))).1)] X1 rfl ⟨by decide, by decide, rfl⟩ ⟨trivial, ⟨Or.inr (by first | assumption | rfl | decide | omega | exact Nat.succ_ne_zero _), by first | assumption | exact tf_in (n := (k + 1)) rfl (by first | assumption | rfl) (by omega) (by decide)⟩⟩ ?_
  rw [show (X1 3 (Int32.toNatClampNeg (nI (k + 1)))) = (z (k + 1)) from (by rw [tf_cl_nI (by omega)]; exact hz1 (k + 1))]
  refine tf_go hx ftL_case25 4 [] 1105 [some (.ref 3), some (.ref 4), some (.ref 125), some (.int (nI k))] [.int ((nI k) + 2), .ref 3, .int (z (k + 1)), .ref 125, .int ((s_ache A (z (k + 1)) (z (k + 2))).1)] X1 rfl ⟨by decide, by decide, rfl⟩ trivial ?_
  rw [show ((nI k) + 2) = nI (k + 2) from (tf_add (a := k) (b := 2) rfl (rfl : (2 : Int32) = nI 2))]
  refine tf_go hx ftL_case25 1 [] 1106 [some (.ref 3), some (.ref 4), some (.ref 125), some (.int (nI k))] [.int (X1 3 (Int32.toNatClampNeg (nI (k + 2)))), .int (z (k + 1)), .ref 125, .int ((s_ache A (z (k + 1)) (z (k + 2))).1)] X1 rfl ⟨by decide, by decide, rfl⟩ ⟨trivial, ⟨Or.inr (by first | assumption | rfl | decide | omega | exact Nat.succ_ne_zero _), by first | assumption | exact tf_in (n := (k + 2)) rfl (by first | assumption | rfl) (by omega) (by decide)⟩⟩ ?_
  rw [show (X1 3 (Int32.toNatClampNeg (nI (k + 2)))) = (z (k + 2)) from (by rw [tf_cl_nI (by omega)]; exact hz1 (k + 2))]
  refine tf_cV hx ftL_case25 (nx := 1109) (As := [.int (z (k + 1)), .int (z (k + 2))]) (rest := [.int ((s_ache A (z (k + 1)) (z (k + 2))).1)]) (st2 := [.int ((s_ache A (z (k + 1)) (z (k + 2))).1), .int ((s_ache A (z (k + 1)) (z (k + 2))).1)]) (hG1) rfl lL_128 (by first | assumption | rfl | decide) rfl ⟨rfl, by decide, by decide, by decide, rfl, rfl⟩ ?_
  refine tf_go hx ftL_case25 1 [true] 1302 [some (.ref 3), some (.ref 4), some (.ref 125), some (.int (nI k))] [] Y1 rfl ⟨by decide, by decide, rfl⟩ ⟨trivial, rfl⟩ ?_
  refine tf_go hx ftL_case25 2 [] 18 [some (.ref 3), some (.ref 4), some (.ref 125), some (.int ((nI k) + 5))] [] Y1 rfl ⟨by decide, by decide, rfl⟩ trivial ?_
  rw [show ((nI k) + 5) = nI (k + 5) from (tf_add (a := k) (b := 5) rfl (rfl : (5 : Int32) = nI 5))]
  have hz2 : ∀ j, Y1 3 j = z j := fun j => by rw [fm_le hg1 3 (by omega)]; exact hz1 j
  exact ih Y1 (s_ache A (z (k + 1)) (z (k + 2))).2 (ok_ache (z (k + 1)) (z (k + 2)) hA) (cs_fm (ok_ache (z (k + 1)) (z (k + 2)) hA) hc1 hg1) hm1 hz2

set_option maxHeartbeats 2000000 in
theorem law_c26 {N k : Nat} {z : Nat → Int32} {x : tf_X} {Y : tf_Sg} {A : tf_A} (hx : tf_C x cL_law RL 4 9 200 5000 false) (hN : N ≤ 320) (hk : k + 5 ≤ N) (hA : tf_okA A) (hC : tf_cs Y A) (hM : tf_ms (tf_GG N) Y 125 A) (hz : ∀ j, Y 3 j = z j) (ih : ∀ (Y : tf_Sg) (A : tf_A), tf_okA A → tf_cs Y A → tf_ms (tf_GG N) Y 125 A → (∀ j, Y 3 j = z j) → tf_K x 200 5000 (tf_GG N) Y 18 [some (.ref 3), some (.ref 4), some (.ref 125), some (.int (nI (k + 5)))] []) : tf_K x 200 5000 (tf_GG N) Y 1114 [some (.ref 3), some (.ref 4), some (.ref 125), some (.int (nI k))] [] := by
  have i1 : vp_in (nI (k + 1)) (tf_ln (tf_GG N) 3) := tf_in (n := k + 1) (N := N) rfl rfl (by omega) (by omega)
  have i2 : vp_in (nI (k + 2)) (tf_ln (tf_GG N) 3) := tf_in (n := k + 2) (N := N) rfl rfl (by omega) (by omega)
  have i3 : vp_in (nI (k + 3)) (tf_ln (tf_GG N) 3) := tf_in (n := k + 3) (N := N) rfl rfl (by omega) (by omega)
  have i4 : vp_in (nI (k + 4)) (tf_ln (tf_GG N) 3) := tf_in (n := k + 4) (N := N) rfl rfl (by omega) (by omega)
  refine tf_go hx ftL_case26 1 [] 1115 [some (.ref 3), some (.ref 4), some (.ref 125), some (.int (nI k))] [.ref 4] Y rfl ⟨by decide, by decide, rfl⟩ trivial ?_
  refine tf_go hx ftL_case26 4 [] 1119 [some (.ref 3), some (.ref 4), some (.ref 125), some (.int (nI k))] [.int ((nI k) + 1), .ref 3, .ref 4] Y rfl ⟨by decide, by decide, rfl⟩ trivial ?_
  rw [show ((nI k) + 1) = nI (k + 1) from (tf_add (a := k) (b := 1) rfl (rfl : (1 : Int32) = nI 1))]
  refine tf_go hx ftL_case26 1 [] 1120 [some (.ref 3), some (.ref 4), some (.ref 125), some (.int (nI k))] [.int (Y 3 (Int32.toNatClampNeg (nI (k + 1)))), .ref 4] Y rfl ⟨by decide, by decide, rfl⟩ ⟨trivial, ⟨Or.inr (by first | assumption | rfl | decide | omega | exact Nat.succ_ne_zero _), by first | assumption | exact tf_in (n := (k + 1)) rfl (by first | assumption | rfl) (by omega) (by decide)⟩⟩ ?_
  rw [show (Y 3 (Int32.toNatClampNeg (nI (k + 1)))) = (z (k + 1)) from (by rw [tf_cl_nI (by omega)]; exact hz (k + 1))]
  refine tf_go hx ftL_case26 4 [] 1124 [some (.ref 3), some (.ref 4), some (.ref 125), some (.int (nI k))] [.int ((nI k) + 2), .ref 3, .int (z (k + 1)), .ref 4] Y rfl ⟨by decide, by decide, rfl⟩ trivial ?_
  rw [show ((nI k) + 2) = nI (k + 2) from (tf_add (a := k) (b := 2) rfl (rfl : (2 : Int32) = nI 2))]
  refine tf_go hx ftL_case26 1 [] 1125 [some (.ref 3), some (.ref 4), some (.ref 125), some (.int (nI k))] [.int (Y 3 (Int32.toNatClampNeg (nI (k + 2)))), .int (z (k + 1)), .ref 4] Y rfl ⟨by decide, by decide, rfl⟩ ⟨trivial, ⟨Or.inr (by first | assumption | rfl | decide | omega | exact Nat.succ_ne_zero _), by first | assumption | exact tf_in (n := (k + 2)) rfl (by first | assumption | rfl) (by omega) (by decide)⟩⟩ ?_
  rw [show (Y 3 (Int32.toNatClampNeg (nI (k + 2)))) = (z (k + 2)) from (by rw [tf_cl_nI (by omega)]; exact hz (k + 2))]
  refine tf_go hx ftL_case26 4 [] 1129 [some (.ref 3), some (.ref 4), some (.ref 125), some (.int (nI k))] [.int ((nI k) + 3), .ref 3, .int (z (k + 2)), .int (z (k + 1)), .ref 4] Y rfl ⟨by decide, by decide, rfl⟩ trivial ?_
  rw [show ((nI k) + 3) = nI (k + 3) from (tf_add (a := k) (b := 3) rfl (rfl : (3 : Int32) = nI 3))]
  refine tf_go hx ftL_case26 1 [] 1130 [some (.ref 3), some (.ref 4), some (.ref 125), some (.int (nI k))] [.int (Y 3 (Int32.toNatClampNeg (nI (k + 3)))), .int (z (k + 2)), .int (z (k + 1)), .ref 4] Y rfl ⟨by decide, by decide, rfl⟩ ⟨trivial, ⟨Or.inr (by first | assumption | rfl | decide | omega | exact Nat.succ_ne_zero _), by first | assumption | exact tf_in (n := (k + 3)) rfl (by first | assumption | rfl) (by omega) (by decide)⟩⟩ ?_
  rw [show (Y 3 (Int32.toNatClampNeg (nI (k + 3)))) = (z (k + 3)) from (by rw [tf_cl_nI (by omega)]; exact hz (k + 3))]
  obtain ⟨X1, hF1, hc1, hf1⟩ := c_pauses (N := N) (S := Y) (z (k + 1)) (z (k + 2)) (z (k + 3)) hA hC
  refine tf_cV hx ftL_case26 (nx := 1133) (As := [.int (z (k + 1)), .int (z (k + 2)), .int (z (k + 3))]) (rest := []) (st2 := [.int ((s_pauses A (z (k + 1)) (z (k + 2)) (z (k + 3))).1)]) (hF1) rfl lL_129 (by first | assumption | rfl | decide) rfl ⟨rfl, by decide, by decide, by decide, rfl, rfl⟩ ?_
  have hz1 : ∀ j, X1 3 j = z j := fun j => by rw [hf1 3 (by omega)]; exact hz j
  obtain ⟨Y1, hG1, hm1, hg1⟩ := p_pauses (G := (tf_GG N)) (S := X1) (o := 125) (z (k + 1)) (z (k + 2)) (z (k + 3)) mdG.1 mdG.2 hA (ms_fc hM hf1)
  refine tf_go hx ftL_case26 1 [] 1134 [some (.ref 3), some (.ref 4), some (.ref 125), some (.int (nI k))] [.ref 125, .int ((s_pauses A (z (k + 1)) (z (k + 2)) (z (k + 3))).1)] X1 rfl ⟨by decide, by decide, rfl⟩ trivial ?_
  refine tf_go hx ftL_case26 4 [] 1138 [some (.ref 3), some (.ref 4), some (.ref 125), some (.int (nI k))] [.int ((nI k) + 1), .ref 3, .ref 125, .int ((s_pauses A (z (k + 1)) (z (k + 2)) (z (k + 3))).1)] X1 rfl ⟨by decide, by decide, rfl⟩ trivial ?_
  rw [show ((nI k) + 1) = nI (k + 1) from (tf_add (a := k) (b := 1) rfl (rfl : (1 : Int32) = nI 1))]
  refine tf_go hx ftL_case26 1 [] 1139 [some (.ref 3), some (.ref 4), some (.ref 125), some (.int (nI k))] [.int (X1 3 (Int32.toNatClampNeg (nI (k + 1)))), .ref 125, .int ((s_pauses A (z (k + 1)) (z (k + 2)) (z (k + 3))).1)] X1 rfl ⟨by decide, by decide, rfl⟩ ⟨trivial, ⟨Or.inr (by first | assumption | rfl | decide | omega | exact Nat.succ_ne_zero _), by first | assumption | exact tf_in (n := (k + 1)) rfl (by first | assumption | rfl) (by omega) (by decide)⟩⟩ ?_
  rw [show (X1 3 (Int32.toNatClampNeg (nI (k + 1)))) = (z (k + 1)) from (by rw [tf_cl_nI (by omega)]; exact hz1 (k + 1))]
  refine tf_go hx ftL_case26 4 [] 1143 [some (.ref 3), some (.ref 4), some (.ref 125), some (.int (nI k))] [.int ((nI k) + 2), .ref 3, .int (z (k + 1)), .ref 125, .int ((s_pauses A (z (k + 1)) (z (k + 2)) (z (k + 3))).1)] X1 rfl ⟨by decide, by decide, rfl⟩ trivial ?_
  rw [show ((nI k) + 2) = nI (k + 2) from (tf_add (a := k) (b := 2) rfl (rfl : (2 : Int32) = nI 2))]
  refine tf_go hx ftL_case26 1 [] 1144 [some (.ref 3), some (.ref 4), some (.ref 125), some (.int (nI k))] [.int (X1 3 (Int32.toNatClampNeg (nI (k + 2)))), .int (z (k + 1)), .ref 125, .int ((s_pauses A (z (k + 1)) (z (k + 2)) (z (k + 3))).1)] X1 rfl ⟨by decide, by decide, rfl⟩ ⟨trivial, ⟨Or.inr (by first | assumption | rfl | decide | omega | exact Nat.succ_ne_zero _), by first | assumption | exact tf_in (n := (k + 2)) rfl (by first | assumption | rfl) (by omega) (by decide)⟩⟩ ?_
  rw [show (X1 3 (Int32.toNatClampNeg (nI (k + 2)))) = (z (k + 2)) from (by rw [tf_cl_nI (by omega)]; exact hz1 (k + 2))]
  refine tf_go hx ftL_case26 4 [] 1148 [some (.ref 3), some (.ref 4), some (.ref 125), some (.int (nI k))] [.int ((nI k) + 3), .ref 3, .int (z (k + 2)), .int (z (k + 1)), .ref 125, .int ((s_pauses A (z (k + 1)) (z (k + 2)) (z (k + 3))).1)] X1 rfl ⟨by decide, by decide, rfl⟩ trivial ?_
  rw [show ((nI k) + 3) = nI (k + 3) from (tf_add (a := k) (b := 3) rfl (rfl : (3 : Int32) = nI 3))]
  refine tf_go hx ftL_case26 1 [] 1149 [some (.ref 3), some (.ref 4), some (.ref 125), some (.int (nI k))] [.int (X1 3 (Int32.toNatClampNeg (nI (k + 3)))), .int (z (k + 2)), .int (z (k + 1)), .ref 125, .int ((s_pauses A (z (k + 1)) (z (k + 2)) (z (k + 3))).1)] X1 rfl ⟨by decide, by decide, rfl⟩ ⟨trivial, ⟨Or.inr (by first | assumption | rfl | decide | omega | exact Nat.succ_ne_zero _), by first | assumption | exact tf_in (n := (k + 3)) rfl (by first | assumption | rfl) (by omega) (by decide)⟩⟩ ?_
  rw [show (X1 3 (Int32.toNatClampNeg (nI (k + 3)))) = (z (k + 3)) from (by rw [tf_cl_nI (by omega)]; exact hz1 (k + 3))]
  refine tf_cV hx ftL_case26 (nx := 1152) (As := [.int (z (k + 1)), .int (z (k + 2)), .int (z (k + 3))]) (rest := [.int ((s_pauses A (z (k + 1)) (z (k + 2)) (z (k + 3))).1)]) (st2 := [.int ((s_pauses A (z (k + 1)) (z (k + 2)) (z (k + 3))).1), .int ((s_pauses A (z (k + 1)) (z (k + 2)) (z (k + 3))).1)]) (hG1) rfl lL_132 (by first | assumption | rfl | decide) rfl ⟨rfl, by decide, by decide, by decide, rfl, rfl⟩ ?_
  refine tf_go hx ftL_case26 1 [true] 1302 [some (.ref 3), some (.ref 4), some (.ref 125), some (.int (nI k))] [] Y1 rfl ⟨by decide, by decide, rfl⟩ ⟨trivial, rfl⟩ ?_
  refine tf_go hx ftL_case26 2 [] 18 [some (.ref 3), some (.ref 4), some (.ref 125), some (.int ((nI k) + 5))] [] Y1 rfl ⟨by decide, by decide, rfl⟩ trivial ?_
  rw [show ((nI k) + 5) = nI (k + 5) from (tf_add (a := k) (b := 5) rfl (rfl : (5 : Int32) = nI 5))]
  have hz2 : ∀ j, Y1 3 j = z j := fun j => by rw [fm_le hg1 3 (by omega)]; exact hz1 j
  exact ih Y1 (s_pauses A (z (k + 1)) (z (k + 2)) (z (k + 3))).2 (ok_pauses (z (k + 1)) (z (k + 2)) (z (k + 3)) hA) (cs_fm (ok_pauses (z (k + 1)) (z (k + 2)) (z (k + 3)) hA) hc1 hg1) hm1 hz2

set_option maxHeartbeats 2000000 in
theorem law_c27 {N k : Nat} {z : Nat → Int32} {x : tf_X} {Y : tf_Sg} {A : tf_A} (hx : tf_C x cL_law RL 4 9 200 5000 false) (hN : N ≤ 320) (hk : k + 5 ≤ N) (hA : tf_okA A) (hC : tf_cs Y A) (hM : tf_ms (tf_GG N) Y 125 A) (hz : ∀ j, Y 3 j = z j) (ih : ∀ (Y : tf_Sg) (A : tf_A), tf_okA A → tf_cs Y A → tf_ms (tf_GG N) Y 125 A → (∀ j, Y 3 j = z j) → tf_K x 200 5000 (tf_GG N) Y 18 [some (.ref 3), some (.ref 4), some (.ref 125), some (.int (nI (k + 5)))] []) : tf_K x 200 5000 (tf_GG N) Y 1157 [some (.ref 3), some (.ref 4), some (.ref 125), some (.int (nI k))] [] := by
  have i1 : vp_in (nI (k + 1)) (tf_ln (tf_GG N) 3) := tf_in (n := k + 1) (N := N) rfl rfl (by omega) (by omega)
  have i2 : vp_in (nI (k + 2)) (tf_ln (tf_GG N) 3) := tf_in (n := k + 2) (N := N) rfl rfl (by omega) (by omega)
  have i3 : vp_in (nI (k + 3)) (tf_ln (tf_GG N) 3) := tf_in (n := k + 3) (N := N) rfl rfl (by omega) (by omega)
  have i4 : vp_in (nI (k + 4)) (tf_ln (tf_GG N) 3) := tf_in (n := k + 4) (N := N) rfl rfl (by omega) (by omega)
  refine tf_go hx ftL_case27 1 [] 1158 [some (.ref 3), some (.ref 4), some (.ref 125), some (.int (nI k))] [.ref 4] Y rfl ⟨by decide, by decide, rfl⟩ trivial ?_
  refine tf_go hx ftL_case27 4 [] 1162 [some (.ref 3), some (.ref 4), some (.ref 125), some (.int (nI k))] [.int ((nI k) + 1), .ref 3, .ref 4] Y rfl ⟨by decide, by decide, rfl⟩ trivial ?_
  rw [show ((nI k) + 1) = nI (k + 1) from (tf_add (a := k) (b := 1) rfl (rfl : (1 : Int32) = nI 1))]
  refine tf_go hx ftL_case27 1 [] 1163 [some (.ref 3), some (.ref 4), some (.ref 125), some (.int (nI k))] [.int (Y 3 (Int32.toNatClampNeg (nI (k + 1)))), .ref 4] Y rfl ⟨by decide, by decide, rfl⟩ ⟨trivial, ⟨Or.inr (by first | assumption | rfl | decide | omega | exact Nat.succ_ne_zero _), by first | assumption | exact tf_in (n := (k + 1)) rfl (by first | assumption | rfl) (by omega) (by decide)⟩⟩ ?_
  rw [show (Y 3 (Int32.toNatClampNeg (nI (k + 1)))) = (z (k + 1)) from (by rw [tf_cl_nI (by omega)]; exact hz (k + 1))]
  refine tf_go hx ftL_case27 4 [] 1167 [some (.ref 3), some (.ref 4), some (.ref 125), some (.int (nI k))] [.int ((nI k) + 2), .ref 3, .int (z (k + 1)), .ref 4] Y rfl ⟨by decide, by decide, rfl⟩ trivial ?_
  rw [show ((nI k) + 2) = nI (k + 2) from (tf_add (a := k) (b := 2) rfl (rfl : (2 : Int32) = nI 2))]
  refine tf_go hx ftL_case27 1 [] 1168 [some (.ref 3), some (.ref 4), some (.ref 125), some (.int (nI k))] [.int (Y 3 (Int32.toNatClampNeg (nI (k + 2)))), .int (z (k + 1)), .ref 4] Y rfl ⟨by decide, by decide, rfl⟩ ⟨trivial, ⟨Or.inr (by first | assumption | rfl | decide | omega | exact Nat.succ_ne_zero _), by first | assumption | exact tf_in (n := (k + 2)) rfl (by first | assumption | rfl) (by omega) (by decide)⟩⟩ ?_
  rw [show (Y 3 (Int32.toNatClampNeg (nI (k + 2)))) = (z (k + 2)) from (by rw [tf_cl_nI (by omega)]; exact hz (k + 2))]
  refine tf_go hx ftL_case27 4 [] 1172 [some (.ref 3), some (.ref 4), some (.ref 125), some (.int (nI k))] [.int ((nI k) + 3), .ref 3, .int (z (k + 2)), .int (z (k + 1)), .ref 4] Y rfl ⟨by decide, by decide, rfl⟩ trivial ?_
  rw [show ((nI k) + 3) = nI (k + 3) from (tf_add (a := k) (b := 3) rfl (rfl : (3 : Int32) = nI 3))]
  refine tf_go hx ftL_case27 1 [] 1173 [some (.ref 3), some (.ref 4), some (.ref 125), some (.int (nI k))] [.int (Y 3 (Int32.toNatClampNeg (nI (k + 3)))), .int (z (k + 2)), .int (z (k + 1)), .ref 4] Y rfl ⟨by decide, by decide, rfl⟩ ⟨trivial, ⟨Or.inr (by first | assumption | rfl | decide | omega | exact Nat.succ_ne_zero _), by first | assumption | exact tf_in (n := (k + 3)) rfl (by first | assumption | rfl) (by omega) (by decide)⟩⟩ ?_
  rw [show (Y 3 (Int32.toNatClampNeg (nI (k + 3)))) = (z (k + 3)) from (by rw [tf_cl_nI (by omega)]; exact hz (k + 3))]
  refine tf_go hx ftL_case27 4 [] 1177 [some (.ref 3), some (.ref 4), some (.ref 125), some (.int (nI k))] [.int ((nI k) + 4), .ref 3, .int (z (k + 3)), .int (z (k + 2)), .int (z (k + 1)), .ref 4] Y rfl ⟨by decide, by decide, rfl⟩ trivial ?_
  rw [show ((nI k) + 4) = nI (k + 4) from (tf_add (a := k) (b := 4) rfl (rfl : (4 : Int32) = nI 4))]
  refine tf_go hx ftL_case27 1 [] 1178 [some (.ref 3), some (.ref 4), some (.ref 125), some (.int (nI k))] [.int (Y 3 (Int32.toNatClampNeg (nI (k + 4)))), .int (z (k + 3)), .int (z (k + 2)), .int (z (k + 1)), .ref 4] Y rfl ⟨by decide, by decide, rfl⟩ ⟨trivial, ⟨Or.inr (by first | assumption | rfl | decide | omega | exact Nat.succ_ne_zero _), by first | assumption | exact tf_in (n := (k + 4)) rfl (by first | assumption | rfl) (by omega) (by decide)⟩⟩ ?_
  rw [show (Y 3 (Int32.toNatClampNeg (nI (k + 4)))) = (z (k + 4)) from (by rw [tf_cl_nI (by omega)]; exact hz (k + 4))]
  obtain ⟨X1, hF1, hc1, hf1⟩ := c_pace (N := N) (S := Y) (z (k + 1)) (z (k + 2)) (z (k + 3)) (z (k + 4)) hA hC
  refine tf_cV hx ftL_case27 (nx := 1181) (As := [.int (z (k + 1)), .int (z (k + 2)), .int (z (k + 3)), .int (z (k + 4))]) (rest := []) (st2 := [.int ((s_pace A (z (k + 1)) (z (k + 2)) (z (k + 3)) (z (k + 4))).1)]) (hF1) rfl lL_133 (by first | assumption | rfl | decide) rfl ⟨rfl, by decide, by decide, by decide, rfl, rfl⟩ ?_
  have hz1 : ∀ j, X1 3 j = z j := fun j => by rw [hf1 3 (by omega)]; exact hz j
  obtain ⟨Y1, hG1, hm1, hg1⟩ := p_pace (G := (tf_GG N)) (S := X1) (o := 125) (z (k + 1)) (z (k + 2)) (z (k + 3)) (z (k + 4)) mdG.1 mdG.2 hA (ms_fc hM hf1)
  refine tf_go hx ftL_case27 1 [] 1182 [some (.ref 3), some (.ref 4), some (.ref 125), some (.int (nI k))] [.ref 125, .int ((s_pace A (z (k + 1)) (z (k + 2)) (z (k + 3)) (z (k + 4))).1)] X1 rfl ⟨by decide, by decide, rfl⟩ trivial ?_
  refine tf_go hx ftL_case27 4 [] 1186 [some (.ref 3), some (.ref 4), some (.ref 125), some (.int (nI k))] [.int ((nI k) + 1), .ref 3, .ref 125, .int ((s_pace A (z (k + 1)) (z (k + 2)) (z (k + 3)) (z (k + 4))).1)] X1 rfl ⟨by decide, by decide, rfl⟩ trivial ?_
  rw [show ((nI k) + 1) = nI (k + 1) from (tf_add (a := k) (b := 1) rfl (rfl : (1 : Int32) = nI 1))]
  refine tf_go hx ftL_case27 1 [] 1187 [some (.ref 3), some (.ref 4), some (.ref 125), some (.int (nI k))] [.int (X1 3 (Int32.toNatClampNeg (nI (k + 1)))), .ref 125, .int ((s_pace A (z (k + 1)) (z (k + 2)) (z (k + 3)) (z (k + 4))).1)] X1 rfl ⟨by decide, by decide, rfl⟩ ⟨trivial, ⟨Or.inr (by first | assumption | rfl | decide | omega | exact Nat.succ_ne_zero _), by first | assumption | exact tf_in (n := (k + 1)) rfl (by first | assumption | rfl) (by omega) (by decide)⟩⟩ ?_
  rw [show (X1 3 (Int32.toNatClampNeg (nI (k + 1)))) = (z (k + 1)) from (by rw [tf_cl_nI (by omega)]; exact hz1 (k + 1))]
  refine tf_go hx ftL_case27 4 [] 1191 [some (.ref 3), some (.ref 4), some (.ref 125), some (.int (nI k))] [.int ((nI k) + 2), .ref 3, .int (z (k + 1)), .ref 125, .int ((s_pace A (z (k + 1)) (z (k + 2)) (z (k + 3)) (z (k + 4))).1)] X1 rfl ⟨by decide, by decide, rfl⟩ trivial ?_
  rw [show ((nI k) + 2) = nI (k + 2) from (tf_add (a := k) (b := 2) rfl (rfl : (2 : Int32) = nI 2))]
  refine tf_go hx ftL_case27 1 [] 1192 [some (.ref 3), some (.ref 4), some (.ref 125), some (.int (nI k))] [.int (X1 3 (Int32.toNatClampNeg (nI (k + 2)))), .int (z (k + 1)), .ref 125, .int ((s_pace A (z (k + 1)) (z (k + 2)) (z (k + 3)) (z (k + 4))).1)] X1 rfl ⟨by decide, by decide, rfl⟩ ⟨trivial, ⟨Or.inr (by first | assumption | rfl | decide | omega | exact Nat.succ_ne_zero _), by first | assumption | exact tf_in (n := (k + 2)) rfl (by first | assumption | rfl) (by omega) (by decide)⟩⟩ ?_
  rw [show (X1 3 (Int32.toNatClampNeg (nI (k + 2)))) = (z (k + 2)) from (by rw [tf_cl_nI (by omega)]; exact hz1 (k + 2))]
  refine tf_go hx ftL_case27 4 [] 1196 [some (.ref 3), some (.ref 4), some (.ref 125), some (.int (nI k))] [.int ((nI k) + 3), .ref 3, .int (z (k + 2)), .int (z (k + 1)), .ref 125, .int ((s_pace A (z (k + 1)) (z (k + 2)) (z (k + 3)) (z (k + 4))).1)] X1 rfl ⟨by decide, by decide, rfl⟩ trivial ?_
  rw [show ((nI k) + 3) = nI (k + 3) from (tf_add (a := k) (b := 3) rfl (rfl : (3 : Int32) = nI 3))]
  refine tf_go hx ftL_case27 1 [] 1197 [some (.ref 3), some (.ref 4), some (.ref 125), some (.int (nI k))] [.int (X1 3 (Int32.toNatClampNeg (nI (k + 3)))), .int (z (k + 2)), .int (z (k + 1)), .ref 125, .int ((s_pace A (z (k + 1)) (z (k + 2)) (z (k + 3)) (z (k + 4))).1)] X1 rfl ⟨by decide, by decide, rfl⟩ ⟨trivial, ⟨Or.inr (by first | assumption | rfl | decide | omega | exact Nat.succ_ne_zero _), by first | assumption | exact tf_in (n := (k + 3)) rfl (by first | assumption | rfl) (by omega) (by decide)⟩⟩ ?_
  rw [show (X1 3 (Int32.toNatClampNeg (nI (k + 3)))) = (z (k + 3)) from (by rw [tf_cl_nI (by omega)]; exact hz1 (k + 3))]
  refine tf_go hx ftL_case27 4 [] 1201 [some (.ref 3), some (.ref 4), some (.ref 125), some (.int (nI k))] [.int ((nI k) + 4), .ref 3, .int (z (k + 3)), .int (z (k + 2)), .int (z (k + 1)), .ref 125, .int ((s_pace A (z (k + 1)) (z (k + 2)) (z (k + 3)) (z (k + 4))).1)] X1 rfl ⟨by decide, by decide, rfl⟩ trivial ?_
  rw [show ((nI k) + 4) = nI (k + 4) from (tf_add (a := k) (b := 4) rfl (rfl : (4 : Int32) = nI 4))]
  refine tf_go hx ftL_case27 1 [] 1202 [some (.ref 3), some (.ref 4), some (.ref 125), some (.int (nI k))] [.int (X1 3 (Int32.toNatClampNeg (nI (k + 4)))), .int (z (k + 3)), .int (z (k + 2)), .int (z (k + 1)), .ref 125, .int ((s_pace A (z (k + 1)) (z (k + 2)) (z (k + 3)) (z (k + 4))).1)] X1 rfl ⟨by decide, by decide, rfl⟩ ⟨trivial, ⟨Or.inr (by first | assumption | rfl | decide | omega | exact Nat.succ_ne_zero _), by first | assumption | exact tf_in (n := (k + 4)) rfl (by first | assumption | rfl) (by omega) (by decide)⟩⟩ ?_
  rw [show (X1 3 (Int32.toNatClampNeg (nI (k + 4)))) = (z (k + 4)) from (by rw [tf_cl_nI (by omega)]; exact hz1 (k + 4))]
  refine tf_cV hx ftL_case27 (nx := 1205) (As := [.int (z (k + 1)), .int (z (k + 2)), .int (z (k + 3)), .int (z (k + 4))]) (rest := [.int ((s_pace A (z (k + 1)) (z (k + 2)) (z (k + 3)) (z (k + 4))).1)]) (st2 := [.int ((s_pace A (z (k + 1)) (z (k + 2)) (z (k + 3)) (z (k + 4))).1), .int ((s_pace A (z (k + 1)) (z (k + 2)) (z (k + 3)) (z (k + 4))).1)]) (hG1) rfl lL_136 (by first | assumption | rfl | decide) rfl ⟨rfl, by decide, by decide, by decide, rfl, rfl⟩ ?_
  refine tf_go hx ftL_case27 1 [true] 1302 [some (.ref 3), some (.ref 4), some (.ref 125), some (.int (nI k))] [] Y1 rfl ⟨by decide, by decide, rfl⟩ ⟨trivial, rfl⟩ ?_
  refine tf_go hx ftL_case27 2 [] 18 [some (.ref 3), some (.ref 4), some (.ref 125), some (.int ((nI k) + 5))] [] Y1 rfl ⟨by decide, by decide, rfl⟩ trivial ?_
  rw [show ((nI k) + 5) = nI (k + 5) from (tf_add (a := k) (b := 5) rfl (rfl : (5 : Int32) = nI 5))]
  have hz2 : ∀ j, Y1 3 j = z j := fun j => by rw [fm_le hg1 3 (by omega)]; exact hz1 j
  exact ih Y1 (s_pace A (z (k + 1)) (z (k + 2)) (z (k + 3)) (z (k + 4))).2 (ok_pace (z (k + 1)) (z (k + 2)) (z (k + 3)) (z (k + 4)) hA) (cs_fm (ok_pace (z (k + 1)) (z (k + 2)) (z (k + 3)) (z (k + 4)) hA) hc1 hg1) hm1 hz2

set_option maxHeartbeats 2000000 in
theorem law_c28 {N k : Nat} {z : Nat → Int32} {x : tf_X} {Y : tf_Sg} {A : tf_A} (hx : tf_C x cL_law RL 4 9 200 5000 false) (hN : N ≤ 320) (hk : k + 5 ≤ N) (hA : tf_okA A) (hC : tf_cs Y A) (hM : tf_ms (tf_GG N) Y 125 A) (hz : ∀ j, Y 3 j = z j) (ih : ∀ (Y : tf_Sg) (A : tf_A), tf_okA A → tf_cs Y A → tf_ms (tf_GG N) Y 125 A → (∀ j, Y 3 j = z j) → tf_K x 200 5000 (tf_GG N) Y 18 [some (.ref 3), some (.ref 4), some (.ref 125), some (.int (nI (k + 5)))] []) : tf_K x 200 5000 (tf_GG N) Y 1210 [some (.ref 3), some (.ref 4), some (.ref 125), some (.int (nI k))] [] := by
  have i1 : vp_in (nI (k + 1)) (tf_ln (tf_GG N) 3) := tf_in (n := k + 1) (N := N) rfl rfl (by omega) (by omega)
  have i2 : vp_in (nI (k + 2)) (tf_ln (tf_GG N) 3) := tf_in (n := k + 2) (N := N) rfl rfl (by omega) (by omega)
  have i3 : vp_in (nI (k + 3)) (tf_ln (tf_GG N) 3) := tf_in (n := k + 3) (N := N) rfl rfl (by omega) (by omega)
  have i4 : vp_in (nI (k + 4)) (tf_ln (tf_GG N) 3) := tf_in (n := k + 4) (N := N) rfl rfl (by omega) (by omega)
  refine tf_go hx ftL_case28 1 [] 1211 [some (.ref 3), some (.ref 4), some (.ref 125), some (.int (nI k))] [.ref 4] Y rfl ⟨by decide, by decide, rfl⟩ trivial ?_
  refine tf_go hx ftL_case28 4 [] 1215 [some (.ref 3), some (.ref 4), some (.ref 125), some (.int (nI k))] [.int ((nI k) + 1), .ref 3, .ref 4] Y rfl ⟨by decide, by decide, rfl⟩ trivial ?_
  rw [show ((nI k) + 1) = nI (k + 1) from (tf_add (a := k) (b := 1) rfl (rfl : (1 : Int32) = nI 1))]
  refine tf_go hx ftL_case28 1 [] 1216 [some (.ref 3), some (.ref 4), some (.ref 125), some (.int (nI k))] [.int (Y 3 (Int32.toNatClampNeg (nI (k + 1)))), .ref 4] Y rfl ⟨by decide, by decide, rfl⟩ ⟨trivial, ⟨Or.inr (by first | assumption | rfl | decide | omega | exact Nat.succ_ne_zero _), by first | assumption | exact tf_in (n := (k + 1)) rfl (by first | assumption | rfl) (by omega) (by decide)⟩⟩ ?_
  rw [show (Y 3 (Int32.toNatClampNeg (nI (k + 1)))) = (z (k + 1)) from (by rw [tf_cl_nI (by omega)]; exact hz (k + 1))]
  refine tf_go hx ftL_case28 4 [] 1220 [some (.ref 3), some (.ref 4), some (.ref 125), some (.int (nI k))] [.int ((nI k) + 2), .ref 3, .int (z (k + 1)), .ref 4] Y rfl ⟨by decide, by decide, rfl⟩ trivial ?_
  rw [show ((nI k) + 2) = nI (k + 2) from (tf_add (a := k) (b := 2) rfl (rfl : (2 : Int32) = nI 2))]
  refine tf_go hx ftL_case28 1 [] 1221 [some (.ref 3), some (.ref 4), some (.ref 125), some (.int (nI k))] [.int (Y 3 (Int32.toNatClampNeg (nI (k + 2)))), .int (z (k + 1)), .ref 4] Y rfl ⟨by decide, by decide, rfl⟩ ⟨trivial, ⟨Or.inr (by first | assumption | rfl | decide | omega | exact Nat.succ_ne_zero _), by first | assumption | exact tf_in (n := (k + 2)) rfl (by first | assumption | rfl) (by omega) (by decide)⟩⟩ ?_
  rw [show (Y 3 (Int32.toNatClampNeg (nI (k + 2)))) = (z (k + 2)) from (by rw [tf_cl_nI (by omega)]; exact hz (k + 2))]
  refine tf_go hx ftL_case28 4 [] 1225 [some (.ref 3), some (.ref 4), some (.ref 125), some (.int (nI k))] [.int ((nI k) + 3), .ref 3, .int (z (k + 2)), .int (z (k + 1)), .ref 4] Y rfl ⟨by decide, by decide, rfl⟩ trivial ?_
  rw [show ((nI k) + 3) = nI (k + 3) from (tf_add (a := k) (b := 3) rfl (rfl : (3 : Int32) = nI 3))]
  refine tf_go hx ftL_case28 1 [] 1226 [some (.ref 3), some (.ref 4), some (.ref 125), some (.int (nI k))] [.int (Y 3 (Int32.toNatClampNeg (nI (k + 3)))), .int (z (k + 2)), .int (z (k + 1)), .ref 4] Y rfl ⟨by decide, by decide, rfl⟩ ⟨trivial, ⟨Or.inr (by first | assumption | rfl | decide | omega | exact Nat.succ_ne_zero _), by first | assumption | exact tf_in (n := (k + 3)) rfl (by first | assumption | rfl) (by omega) (by decide)⟩⟩ ?_
  rw [show (Y 3 (Int32.toNatClampNeg (nI (k + 3)))) = (z (k + 3)) from (by rw [tf_cl_nI (by omega)]; exact hz (k + 3))]
  obtain ⟨X1, hF1, hc1, hf1⟩ := c_soonest (N := N) (S := Y) (z (k + 1)) (z (k + 2)) (z (k + 3)) hA hC
  refine tf_cV hx ftL_case28 (nx := 1229) (As := [.int (z (k + 1)), .int (z (k + 2)), .int (z (k + 3))]) (rest := []) (st2 := [.int ((s_soonest A (z (k + 1)) (z (k + 2)) (z (k + 3))).1)]) (hF1) rfl lL_137 (by first | assumption | rfl | decide) rfl ⟨rfl, by decide, by decide, by decide, rfl, rfl⟩ ?_
  have hz1 : ∀ j, X1 3 j = z j := fun j => by rw [hf1 3 (by omega)]; exact hz j
  obtain ⟨Y1, hG1, hm1, hg1⟩ := p_soonest (G := (tf_GG N)) (S := X1) (o := 125) (z (k + 1)) (z (k + 2)) (z (k + 3)) mdG.1 mdG.2 hA (ms_fc hM hf1)
  refine tf_go hx ftL_case28 1 [] 1230 [some (.ref 3), some (.ref 4), some (.ref 125), some (.int (nI k))] [.ref 125, .int ((s_soonest A (z (k + 1)) (z (k + 2)) (z (k + 3))).1)] X1 rfl ⟨by decide, by decide, rfl⟩ trivial ?_
  refine tf_go hx ftL_case28 4 [] 1234 [some (.ref 3), some (.ref 4), some (.ref 125), some (.int (nI k))] [.int ((nI k) + 1), .ref 3, .ref 125, .int ((s_soonest A (z (k + 1)) (z (k + 2)) (z (k + 3))).1)] X1 rfl ⟨by decide, by decide, rfl⟩ trivial ?_
  rw [show ((nI k) + 1) = nI (k + 1) from (tf_add (a := k) (b := 1) rfl (rfl : (1 : Int32) = nI 1))]
  refine tf_go hx ftL_case28 1 [] 1235 [some (.ref 3), some (.ref 4), some (.ref 125), some (.int (nI k))] [.int (X1 3 (Int32.toNatClampNeg (nI (k + 1)))), .ref 125, .int ((s_soonest A (z (k + 1)) (z (k + 2)) (z (k + 3))).1)] X1 rfl ⟨by decide, by decide, rfl⟩ ⟨trivial, ⟨Or.inr (by first | assumption | rfl | decide | omega | exact Nat.succ_ne_zero _), by first | assumption | exact tf_in (n := (k + 1)) rfl (by first | assumption | rfl) (by omega) (by decide)⟩⟩ ?_
  rw [show (X1 3 (Int32.toNatClampNeg (nI (k + 1)))) = (z (k + 1)) from (by rw [tf_cl_nI (by omega)]; exact hz1 (k + 1))]
  refine tf_go hx ftL_case28 4 [] 1239 [some (.ref 3), some (.ref 4), some (.ref 125), some (.int (nI k))] [.int ((nI k) + 2), .ref 3, .int (z (k + 1)), .ref 125, .int ((s_soonest A (z (k + 1)) (z (k + 2)) (z (k + 3))).1)] X1 rfl ⟨by decide, by decide, rfl⟩ trivial ?_
  rw [show ((nI k) + 2) = nI (k + 2) from (tf_add (a := k) (b := 2) rfl (rfl : (2 : Int32) = nI 2))]
  refine tf_go hx ftL_case28 1 [] 1240 [some (.ref 3), some (.ref 4), some (.ref 125), some (.int (nI k))] [.int (X1 3 (Int32.toNatClampNeg (nI (k + 2)))), .int (z (k + 1)), .ref 125, .int ((s_soonest A (z (k + 1)) (z (k + 2)) (z (k + 3))).1)] X1 rfl ⟨by decide, by decide, rfl⟩ ⟨trivial, ⟨Or.inr (by first | assumption | rfl | decide | omega | exact Nat.succ_ne_zero _), by first | assumption | exact tf_in (n := (k + 2)) rfl (by first | assumption | rfl) (by omega) (by decide)⟩⟩ ?_
  rw [show (X1 3 (Int32.toNatClampNeg (nI (k + 2)))) = (z (k + 2)) from (by rw [tf_cl_nI (by omega)]; exact hz1 (k + 2))]
  refine tf_go hx ftL_case28 4 [] 1244 [some (.ref 3), some (.ref 4), some (.ref 125), some (.int (nI k))] [.int ((nI k) + 3), .ref 3, .int (z (k + 2)), .int (z (k + 1)), .ref 125, .int ((s_soonest A (z (k + 1)) (z (k + 2)) (z (k + 3))).1)] X1 rfl ⟨by decide, by decide, rfl⟩ trivial ?_
  rw [show ((nI k) + 3) = nI (k + 3) from (tf_add (a := k) (b := 3) rfl (rfl : (3 : Int32) = nI 3))]
  refine tf_go hx ftL_case28 1 [] 1245 [some (.ref 3), some (.ref 4), some (.ref 125), some (.int (nI k))] [.int (X1 3 (Int32.toNatClampNeg (nI (k + 3)))), .int (z (k + 2)), .int (z (k + 1)), .ref 125, .int ((s_soonest A (z (k + 1)) (z (k + 2)) (z (k + 3))).1)] X1 rfl ⟨by decide, by decide, rfl⟩ ⟨trivial, ⟨Or.inr (by first | assumption | rfl | decide | omega | exact Nat.succ_ne_zero _), by first | assumption | exact tf_in (n := (k + 3)) rfl (by first | assumption | rfl) (by omega) (by decide)⟩⟩ ?_
  rw [show (X1 3 (Int32.toNatClampNeg (nI (k + 3)))) = (z (k + 3)) from (by rw [tf_cl_nI (by omega)]; exact hz1 (k + 3))]
  refine tf_cV hx ftL_case28 (nx := 1248) (As := [.int (z (k + 1)), .int (z (k + 2)), .int (z (k + 3))]) (rest := [.int ((s_soonest A (z (k + 1)) (z (k + 2)) (z (k + 3))).1)]) (st2 := [.int ((s_soonest A (z (k + 1)) (z (k + 2)) (z (k + 3))).1), .int ((s_soonest A (z (k + 1)) (z (k + 2)) (z (k + 3))).1)]) (hG1) rfl lL_140 (by first | assumption | rfl | decide) rfl ⟨rfl, by decide, by decide, by decide, rfl, rfl⟩ ?_
  refine tf_go hx ftL_case28 1 [true] 1302 [some (.ref 3), some (.ref 4), some (.ref 125), some (.int (nI k))] [] Y1 rfl ⟨by decide, by decide, rfl⟩ ⟨trivial, rfl⟩ ?_
  refine tf_go hx ftL_case28 2 [] 18 [some (.ref 3), some (.ref 4), some (.ref 125), some (.int ((nI k) + 5))] [] Y1 rfl ⟨by decide, by decide, rfl⟩ trivial ?_
  rw [show ((nI k) + 5) = nI (k + 5) from (tf_add (a := k) (b := 5) rfl (rfl : (5 : Int32) = nI 5))]
  have hz2 : ∀ j, Y1 3 j = z j := fun j => by rw [fm_le hg1 3 (by omega)]; exact hz1 j
  exact ih Y1 (s_soonest A (z (k + 1)) (z (k + 2)) (z (k + 3))).2 (ok_soonest (z (k + 1)) (z (k + 2)) (z (k + 3)) hA) (cs_fm (ok_soonest (z (k + 1)) (z (k + 2)) (z (k + 3)) hA) hc1 hg1) hm1 hz2

set_option maxHeartbeats 2000000 in
theorem law_c29 {N k : Nat} {z : Nat → Int32} {x : tf_X} {Y : tf_Sg} {A : tf_A} (hx : tf_C x cL_law RL 4 9 200 5000 false) (hN : N ≤ 320) (hk : k + 5 ≤ N) (hA : tf_okA A) (hC : tf_cs Y A) (hM : tf_ms (tf_GG N) Y 125 A) (hz : ∀ j, Y 3 j = z j) (ih : ∀ (Y : tf_Sg) (A : tf_A), tf_okA A → tf_cs Y A → tf_ms (tf_GG N) Y 125 A → (∀ j, Y 3 j = z j) → tf_K x 200 5000 (tf_GG N) Y 18 [some (.ref 3), some (.ref 4), some (.ref 125), some (.int (nI (k + 5)))] []) : tf_K x 200 5000 (tf_GG N) Y 1253 [some (.ref 3), some (.ref 4), some (.ref 125), some (.int (nI k))] [] := by
  have i1 : vp_in (nI (k + 1)) (tf_ln (tf_GG N) 3) := tf_in (n := k + 1) (N := N) rfl rfl (by omega) (by omega)
  have i2 : vp_in (nI (k + 2)) (tf_ln (tf_GG N) 3) := tf_in (n := k + 2) (N := N) rfl rfl (by omega) (by omega)
  have i3 : vp_in (nI (k + 3)) (tf_ln (tf_GG N) 3) := tf_in (n := k + 3) (N := N) rfl rfl (by omega) (by omega)
  have i4 : vp_in (nI (k + 4)) (tf_ln (tf_GG N) 3) := tf_in (n := k + 4) (N := N) rfl rfl (by omega) (by omega)
  refine tf_go hx ftL_case29 1 [] 1254 [some (.ref 3), some (.ref 4), some (.ref 125), some (.int (nI k))] [.ref 4] Y rfl ⟨by decide, by decide, rfl⟩ trivial ?_
  obtain ⟨X1, hF1, hc1, hf1⟩ := c_image (N := N) (S := Y)  hA hC
  refine tf_cV hx ftL_case29 (nx := 1257) (As := []) (rest := []) (st2 := [.int ((s_image A).1)]) (hF1) rfl lL_141 (by first | assumption | rfl | decide) rfl ⟨rfl, by decide, by decide, by decide, rfl, rfl⟩ ?_
  have hz1 : ∀ j, X1 3 j = z j := fun j => by rw [hf1 3 (by omega)]; exact hz j
  obtain ⟨Y1, hG1, hm1, hg1⟩ := p_image (G := (tf_GG N)) (S := X1) (o := 125)  mdG.1 mdG.2 hA (ms_fc hM hf1)
  refine tf_go hx ftL_case29 1 [] 1258 [some (.ref 3), some (.ref 4), some (.ref 125), some (.int (nI k))] [.ref 125, .int ((s_image A).1)] X1 rfl ⟨by decide, by decide, rfl⟩ trivial ?_
  refine tf_cV hx ftL_case29 (nx := 1261) (As := []) (rest := [.int ((s_image A).1)]) (st2 := [.int ((s_image A).1), .int ((s_image A).1)]) (hG1) rfl lL_144 (by first | assumption | rfl | decide) rfl ⟨rfl, by decide, by decide, by decide, rfl, rfl⟩ ?_
  refine tf_go hx ftL_case29 1 [true] 1302 [some (.ref 3), some (.ref 4), some (.ref 125), some (.int (nI k))] [] Y1 rfl ⟨by decide, by decide, rfl⟩ ⟨trivial, rfl⟩ ?_
  refine tf_go hx ftL_case29 2 [] 18 [some (.ref 3), some (.ref 4), some (.ref 125), some (.int ((nI k) + 5))] [] Y1 rfl ⟨by decide, by decide, rfl⟩ trivial ?_
  rw [show ((nI k) + 5) = nI (k + 5) from (tf_add (a := k) (b := 5) rfl (rfl : (5 : Int32) = nI 5))]
  have hz2 : ∀ j, Y1 3 j = z j := fun j => by rw [fm_le hg1 3 (by omega)]; exact hz1 j
  exact ih Y1 (s_image A).2 (ok_image hA) (cs_fm (ok_image hA) hc1 hg1) hm1 hz2

set_option maxHeartbeats 2000000 in
theorem law_c30 {N k : Nat} {z : Nat → Int32} {x : tf_X} {Y : tf_Sg} {A : tf_A} (hx : tf_C x cL_law RL 4 9 200 5000 false) (hN : N ≤ 320) (hk : k + 5 ≤ N) (hA : tf_okA A) (hC : tf_cs Y A) (hM : tf_ms (tf_GG N) Y 125 A) (hz : ∀ j, Y 3 j = z j) (ih : ∀ (Y : tf_Sg) (A : tf_A), tf_okA A → tf_cs Y A → tf_ms (tf_GG N) Y 125 A → (∀ j, Y 3 j = z j) → tf_K x 200 5000 (tf_GG N) Y 18 [some (.ref 3), some (.ref 4), some (.ref 125), some (.int (nI (k + 5)))] []) : tf_K x 200 5000 (tf_GG N) Y 1266 [some (.ref 3), some (.ref 4), some (.ref 125), some (.int (nI k))] [] := by
  have i1 : vp_in (nI (k + 1)) (tf_ln (tf_GG N) 3) := tf_in (n := k + 1) (N := N) rfl rfl (by omega) (by omega)
  have i2 : vp_in (nI (k + 2)) (tf_ln (tf_GG N) 3) := tf_in (n := k + 2) (N := N) rfl rfl (by omega) (by omega)
  have i3 : vp_in (nI (k + 3)) (tf_ln (tf_GG N) 3) := tf_in (n := k + 3) (N := N) rfl rfl (by omega) (by omega)
  have i4 : vp_in (nI (k + 4)) (tf_ln (tf_GG N) 3) := tf_in (n := k + 4) (N := N) rfl rfl (by omega) (by omega)
  refine tf_go hx ftL_case30 1 [] 1267 [some (.ref 3), some (.ref 4), some (.ref 125), some (.int (nI k))] [.ref 4] Y rfl ⟨by decide, by decide, rfl⟩ trivial ?_
  obtain ⟨X1, hF1, hc1, hf1⟩ := c_on (N := N) (S := Y)  hA hC
  refine tf_cV hx ftL_case30 (nx := 1270) (As := []) (rest := []) (st2 := [.int ((s_on A).1)]) (hF1) rfl lL_145 (by first | assumption | rfl | decide) rfl ⟨rfl, by decide, by decide, by decide, rfl, rfl⟩ ?_
  have hz1 : ∀ j, X1 3 j = z j := fun j => by rw [hf1 3 (by omega)]; exact hz j
  obtain ⟨Y1, hG1, hm1, hg1⟩ := p_on (G := (tf_GG N)) (S := X1) (o := 125)  mdG.1 mdG.2 hA (ms_fc hM hf1)
  refine tf_go hx ftL_case30 1 [] 1271 [some (.ref 3), some (.ref 4), some (.ref 125), some (.int (nI k))] [.ref 125, .int ((s_on A).1)] X1 rfl ⟨by decide, by decide, rfl⟩ trivial ?_
  refine tf_cV hx ftL_case30 (nx := 1274) (As := []) (rest := [.int ((s_on A).1)]) (st2 := [.int ((s_on A).1), .int ((s_on A).1)]) (hG1) rfl lL_148 (by first | assumption | rfl | decide) rfl ⟨rfl, by decide, by decide, by decide, rfl, rfl⟩ ?_
  refine tf_go hx ftL_case30 1 [true] 1302 [some (.ref 3), some (.ref 4), some (.ref 125), some (.int (nI k))] [] Y1 rfl ⟨by decide, by decide, rfl⟩ ⟨trivial, rfl⟩ ?_
  refine tf_go hx ftL_case30 2 [] 18 [some (.ref 3), some (.ref 4), some (.ref 125), some (.int ((nI k) + 5))] [] Y1 rfl ⟨by decide, by decide, rfl⟩ trivial ?_
  rw [show ((nI k) + 5) = nI (k + 5) from (tf_add (a := k) (b := 5) rfl (rfl : (5 : Int32) = nI 5))]
  have hz2 : ∀ j, Y1 3 j = z j := fun j => by rw [fm_le hg1 3 (by omega)]; exact hz1 j
  exact ih Y1 (s_on A).2 (ok_on hA) (cs_fm (ok_on hA) hc1 hg1) hm1 hz2

set_option maxHeartbeats 2000000 in
theorem law_c31 {N k : Nat} {z : Nat → Int32} {x : tf_X} {Y : tf_Sg} {A : tf_A} (hx : tf_C x cL_law RL 4 9 200 5000 false) (hN : N ≤ 320) (hk : k + 5 ≤ N) (hA : tf_okA A) (hC : tf_cs Y A) (hM : tf_ms (tf_GG N) Y 125 A) (hz : ∀ j, Y 3 j = z j) (ih : ∀ (Y : tf_Sg) (A : tf_A), tf_okA A → tf_cs Y A → tf_ms (tf_GG N) Y 125 A → (∀ j, Y 3 j = z j) → tf_K x 200 5000 (tf_GG N) Y 18 [some (.ref 3), some (.ref 4), some (.ref 125), some (.int (nI (k + 5)))] []) : tf_K x 200 5000 (tf_GG N) Y 1279 [some (.ref 3), some (.ref 4), some (.ref 125), some (.int (nI k))] [] := by
  have i1 : vp_in (nI (k + 1)) (tf_ln (tf_GG N) 3) := tf_in (n := k + 1) (N := N) rfl rfl (by omega) (by omega)
  have i2 : vp_in (nI (k + 2)) (tf_ln (tf_GG N) 3) := tf_in (n := k + 2) (N := N) rfl rfl (by omega) (by omega)
  have i3 : vp_in (nI (k + 3)) (tf_ln (tf_GG N) 3) := tf_in (n := k + 3) (N := N) rfl rfl (by omega) (by omega)
  have i4 : vp_in (nI (k + 4)) (tf_ln (tf_GG N) 3) := tf_in (n := k + 4) (N := N) rfl rfl (by omega) (by omega)
  refine tf_go hx ftL_case31 1 [] 1280 [some (.ref 3), some (.ref 4), some (.ref 125), some (.int (nI k))] [.ref 4] Y rfl ⟨by decide, by decide, rfl⟩ trivial ?_
  refine tf_go hx ftL_case31 4 [] 1284 [some (.ref 3), some (.ref 4), some (.ref 125), some (.int (nI k))] [.int ((nI k) + 1), .ref 3, .ref 4] Y rfl ⟨by decide, by decide, rfl⟩ trivial ?_
  rw [show ((nI k) + 1) = nI (k + 1) from (tf_add (a := k) (b := 1) rfl (rfl : (1 : Int32) = nI 1))]
  refine tf_go hx ftL_case31 1 [] 1285 [some (.ref 3), some (.ref 4), some (.ref 125), some (.int (nI k))] [.int (Y 3 (Int32.toNatClampNeg (nI (k + 1)))), .ref 4] Y rfl ⟨by decide, by decide, rfl⟩ ⟨trivial, ⟨Or.inr (by first | assumption | rfl | decide | omega | exact Nat.succ_ne_zero _), by first | assumption | exact tf_in (n := (k + 1)) rfl (by first | assumption | rfl) (by omega) (by decide)⟩⟩ ?_
  rw [show (Y 3 (Int32.toNatClampNeg (nI (k + 1)))) = (z (k + 1)) from (by rw [tf_cl_nI (by omega)]; exact hz (k + 1))]
  obtain ⟨X1, hF1, hc1, hf1⟩ := c_count (N := N) (S := Y) (z (k + 1)) hA hC
  refine tf_cV hx ftL_case31 (nx := 1288) (As := [.int (z (k + 1))]) (rest := []) (st2 := [.int ((s_count A (z (k + 1))).1)]) (hF1) rfl lL_149 (by first | assumption | rfl | decide) rfl ⟨rfl, by decide, by decide, by decide, rfl, rfl⟩ ?_
  have hz1 : ∀ j, X1 3 j = z j := fun j => by rw [hf1 3 (by omega)]; exact hz j
  obtain ⟨Y1, hG1, hm1, hg1⟩ := p_count (G := (tf_GG N)) (S := X1) (o := 125) (z (k + 1)) mdG.1 mdG.2 hA (ms_fc hM hf1)
  refine tf_go hx ftL_case31 1 [] 1289 [some (.ref 3), some (.ref 4), some (.ref 125), some (.int (nI k))] [.ref 125, .int ((s_count A (z (k + 1))).1)] X1 rfl ⟨by decide, by decide, rfl⟩ trivial ?_
  refine tf_go hx ftL_case31 4 [] 1293 [some (.ref 3), some (.ref 4), some (.ref 125), some (.int (nI k))] [.int ((nI k) + 1), .ref 3, .ref 125, .int ((s_count A (z (k + 1))).1)] X1 rfl ⟨by decide, by decide, rfl⟩ trivial ?_
  rw [show ((nI k) + 1) = nI (k + 1) from (tf_add (a := k) (b := 1) rfl (rfl : (1 : Int32) = nI 1))]
  refine tf_go hx ftL_case31 1 [] 1294 [some (.ref 3), some (.ref 4), some (.ref 125), some (.int (nI k))] [.int (X1 3 (Int32.toNatClampNeg (nI (k + 1)))), .ref 125, .int ((s_count A (z (k + 1))).1)] X1 rfl ⟨by decide, by decide, rfl⟩ ⟨trivial, ⟨Or.inr (by first | assumption | rfl | decide | omega | exact Nat.succ_ne_zero _), by first | assumption | exact tf_in (n := (k + 1)) rfl (by first | assumption | rfl) (by omega) (by decide)⟩⟩ ?_
  rw [show (X1 3 (Int32.toNatClampNeg (nI (k + 1)))) = (z (k + 1)) from (by rw [tf_cl_nI (by omega)]; exact hz1 (k + 1))]
  refine tf_cV hx ftL_case31 (nx := 1297) (As := [.int (z (k + 1))]) (rest := [.int ((s_count A (z (k + 1))).1)]) (st2 := [.int ((s_count A (z (k + 1))).1), .int ((s_count A (z (k + 1))).1)]) (hG1) rfl lL_152 (by first | assumption | rfl | decide) rfl ⟨rfl, by decide, by decide, by decide, rfl, rfl⟩ ?_
  refine tf_go hx ftL_case31 1 [true] 1302 [some (.ref 3), some (.ref 4), some (.ref 125), some (.int (nI k))] [] Y1 rfl ⟨by decide, by decide, rfl⟩ ⟨trivial, rfl⟩ ?_
  refine tf_go hx ftL_case31 2 [] 18 [some (.ref 3), some (.ref 4), some (.ref 125), some (.int ((nI k) + 5))] [] Y1 rfl ⟨by decide, by decide, rfl⟩ trivial ?_
  rw [show ((nI k) + 5) = nI (k + 5) from (tf_add (a := k) (b := 5) rfl (rfl : (5 : Int32) = nI 5))]
  have hz2 : ∀ j, Y1 3 j = z j := fun j => by rw [fm_le hg1 3 (by omega)]; exact hz1 j
  exact ih Y1 (s_count A (z (k + 1))).2 (ok_count (z (k + 1)) hA) (cs_fm (ok_count (z (k + 1)) hA) hc1 hg1) hm1 hz2

