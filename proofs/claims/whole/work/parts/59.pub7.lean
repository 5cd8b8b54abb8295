theorem tf_tw_gd144 {A : tf_A} (hA : tf_okA A) (hn : A.2.2.1 ≤ 40) (fv : ∀ k, k < A.2.2.1 → (97 ≤ A.2.1 k ∧ A.2.1 k ≤ 122) ∨ (0 ≠ 0 ∧ A.2.1 k = 60)) : tf_gd (tf_u (tf_tw A.1 A.2.1 144 A.2.2.1) 364 A.2.2.1) := by
  obtain ⟨hg, -, -, -, -, -⟩ := hA
  have u : ∀ k, (k < 144 ∨ 184 ≤ k) → k ≠ 364 → tf_u (tf_tw A.1 A.2.1 144 A.2.2.1) 364 A.2.2.1 k = A.1 k := fun k h1 h2 => (if_neg h2).trans (if_neg (by omega))
  have c : tf_u (tf_tw A.1 A.2.1 144 A.2.2.1) 364 A.2.2.1 364 = A.2.2.1 := if_pos rfl
  have v : ∀ j, j < A.2.2.1 → tf_u (tf_tw A.1 A.2.1 144 A.2.2.1) 364 A.2.2.1 (144 + j) = tf_tv2 (A.2.1 j) := fun j hj => by
    refine (if_neg (by omega)).trans ((if_pos (by omega)).trans ?_)
    rw [show 144 + j - 144 = j by omega]
  have t : ∀ j, j < A.2.2.1 → tf_tv2 (A.2.1 j) < 26 := fun j hj => by
    unfold tf_tv2
    split
    · rcases fv j hj with h | h; omega; exact absurd rfl h.1
    · rcases fv j hj with h | h <;> omega
  obtain ⟨⟨g1, g2, g3, g4⟩, g5, g6, g7, g8, g9, g10, g11⟩ := hg
  refine ⟨⟨by rw [c]; exact hn, by rw [u _ (by omega) (by omega)]; exact g2, by rw [u _ (by omega) (by omega)]; exact g3, by rw [u _ (by omega) (by omega)]; exact g4⟩, fun z hz => ?_, fun i hi => ?_, fun i hi => ?_, fun z hz j hj => ?_, fun i hi => by rw [u _ (by omega) (by omega)]; exact g9 i hi, fun k hk => by rw [u _ (by omega) (by omega)]; exact g10 k hk, fun b hb k j hk hj h0 h1 => ?_⟩
  · rw [u _ (by omega) (by omega)] at hz; rw [u _ (by omega) (by omega)]; exact g5 z hz
  · rw [c] at hi; rw [v i hi]; exact t i hi
  · rw [u _ (by omega) (by omega)] at hi; rw [u _ (by omega) (by omega)]; exact g7 i hi
  · rw [u _ (by omega) (by omega)] at hz; have g5z := g5 z hz; rw [u _ (by omega) (by omega)] at hj; rw [u _ (by omega) (by omega)]; exact g8 z hz j hj
  · rw [u _ (by omega) (by omega), u _ (by omega) (by omega)] at h0; rw [u _ (by omega) (by omega)] at h1; exact g11 b hb k j hk hj h0 h1
theorem tf_tw_gd184 {A : tf_A} (hA : tf_okA A) (hn : A.2.2.1 ≤ 40) (fv : ∀ k, k < A.2.2.1 → (97 ≤ A.2.1 k ∧ A.2.1 k ≤ 122) ∨ (1 ≠ 0 ∧ A.2.1 k = 60)) : tf_gd (tf_u (tf_tw A.1 A.2.1 184 A.2.2.1) 365 A.2.2.1) := by
  obtain ⟨hg, -, -, -, -, -⟩ := hA
  have u : ∀ k, (k < 184 ∨ 224 ≤ k) → k ≠ 365 → tf_u (tf_tw A.1 A.2.1 184 A.2.2.1) 365 A.2.2.1 k = A.1 k := fun k h1 h2 => (if_neg h2).trans (if_neg (by omega))
  have c : tf_u (tf_tw A.1 A.2.1 184 A.2.2.1) 365 A.2.2.1 365 = A.2.2.1 := if_pos rfl
  have v : ∀ j, j < A.2.2.1 → tf_u (tf_tw A.1 A.2.1 184 A.2.2.1) 365 A.2.2.1 (184 + j) = tf_tv2 (A.2.1 j) := fun j hj => by
    refine (if_neg (by omega)).trans ((if_pos (by omega)).trans ?_)
    rw [show 184 + j - 184 = j by omega]
  have t : ∀ j, j < A.2.2.1 → tf_tv2 (A.2.1 j) ≤ 26 := fun j hj => by
    unfold tf_tv2
    split
    · omega
    · rcases fv j hj with h | h <;> omega
  obtain ⟨⟨g1, g2, g3, g4⟩, g5, g6, g7, g8, g9, g10, g11⟩ := hg
  refine ⟨⟨by rw [u _ (by omega) (by omega)]; exact g1, by rw [c]; exact hn, by rw [u _ (by omega) (by omega)]; exact g3, by rw [u _ (by omega) (by omega)]; exact g4⟩, fun z hz => ?_, fun i hi => ?_, fun i hi => ?_, fun z hz j hj => ?_, fun i hi => by rw [u _ (by omega) (by omega)]; exact g9 i hi, fun k hk => by rw [u _ (by omega) (by omega)]; exact g10 k hk, fun b hb k j hk hj h0 h1 => ?_⟩
  · rw [u _ (by omega) (by omega)] at hz; rw [u _ (by omega) (by omega)]; exact g5 z hz
  · rw [u _ (by omega) (by omega)] at hi; rw [u _ (by omega) (by omega)]; exact g6 i hi
  · rw [c] at hi; rw [v i hi]; exact t i hi
  · rw [u _ (by omega) (by omega)] at hz; have g5z := g5 z hz; rw [u _ (by omega) (by omega)] at hj; rw [u _ (by omega) (by omega)]; exact g8 z hz j hj
  · rw [u _ (by omega) (by omega), u _ (by omega) (by omega)] at h0; rw [u _ (by omega) (by omega)] at h1; exact g11 b hb k j hk hj h0 h1

set_option maxHeartbeats 2000000 in
theorem c_text {N : Nat} {S : tf_Sg} {A : tf_A} (t : Nat) (hA : tf_okA A) (hC : tf_cs S A) (ht : t < 2) : tf_cpq mX10_text 3 N S [.ref 4, .int (nI t)] (s_text A t) := by
  obtain ⟨hg, hb, hA3, hA4, hA5, hA6⟩ := id hA
  obtain ⟨h1j, hS, hK5, ⟨hT1, hT2⟩, hRf, hIm⟩ := id hC
  obtain ⟨⟨g1, g2, g3, g4⟩, g5, g6, g7, g8, g9, g10, g11⟩ := id hg
  unfold s_text
  by_cases e1 : 40 < A.2.2.1
  · rw [if_pos e1]
    refine ⟨tf_set S 124 6 (S 124 6 + 1), tf_Fn_of (own := RX10) false ⟨by decide, rfl, by decide⟩ (Nat.le_of_ble_eq_true rfl) trivial (fun x hx hR => ?_), cs_ref hA hC 6, fc_set (by omega)⟩
    show tf_K x 0 0 (tf_GG N) S 0 [some (.ref 4), some (.int (nI t)), none, none] []
    refine tf_go hx ftX10_text 2 [] 4 [some (.ref 4), some (.int (nI t)), none, none] [.ref 109] S rfl ⟨by decide, by decide, rfl⟩ ⟨trivial, ⟨by first | assumption | rfl | decide | omega | exact Nat.succ_ne_zero _, by first | assumption | rfl | decide | omega | exact Nat.succ_ne_zero _⟩⟩ ?_
    refine tf_cV hx ftX10_text (nx := 7) (As := []) (rest := []) (st2 := [.int (nI A.2.2.1)]) (v_size (cs_T (N := N) hA hC)) rfl lX10_54 (by first | assumption | rfl | decide) rfl ⟨rfl, by decide, by decide, by decide, rfl, rfl⟩ ?_
    refine tf_go hx ftX10_text 1 [] 9 [some (.ref 4), some (.int (nI t)), none, none] [.int 40, .int (nI A.2.2.1)] S rfl ⟨by decide, by decide, rfl⟩ trivial ?_
    refine tf_go hx ftX10_text 1 [false] 12 [some (.ref 4), some (.int (nI t)), none, none] [] S rfl ⟨by decide, by decide, rfl⟩ ⟨trivial, (tf_leF (a := A.2.2.1) (b := 40) rfl (rfl : (40 : Int32) = nI 40) (by omega) (by omega) (by omega))⟩ ?_
    refine tf_go hx ftX10_text 2 [] 15 [some (.ref 4), some (.int (nI t)), none, none] [.int (-6), .ref 4] S rfl ⟨by decide, by decide, rfl⟩ trivial ?_
    refine tf_cV hx ftX10_text (nx := 18) (As := [.int (-6)]) (rest := []) (st2 := [.int (-6)]) (n_ref6) rfl lX10_50 (by first | assumption | rfl | decide) rfl ⟨rfl, by decide, by decide, by decide, rfl, rfl⟩ ?_
    exact tf_ret ftX10_text hR rfl ⟨by decide, by decide⟩ rfl rfl rfl
  · rw [if_neg e1]
    by_cases e0 : t = 0
    · rw [show (if t ≠ 0 then 0 else 1) = 1 from if_neg (fun h => h e0), show (if t ≠ 0 then 364 else 365) = 365 from if_neg (fun h => h e0), show (if t ≠ 0 then 144 else 184) = 184 from if_neg (fun h => h e0)]
      by_cases e2 : tf_lf A.2.1 A.2.2.1 1 < A.2.2.1
      · rw [if_pos e2]
        refine ⟨tf_set S 109 1 0, tf_Fn_of (own := RX10) false ⟨by decide, rfl, by decide⟩ (Nat.le_of_ble_eq_true rfl) trivial (fun x hx hR => ?_), cs_t hA hC 0, fc_set (by omega)⟩
        show tf_K x 0 0 (tf_GG N) S 0 [some (.ref 4), some (.int (nI t)), none, none] []
        refine tf_go hx ftX10_text 2 [] 4 [some (.ref 4), some (.int (nI t)), none, none] [.ref 109] S rfl ⟨by decide, by decide, rfl⟩ ⟨trivial, ⟨by first | assumption | rfl | decide | omega | exact Nat.succ_ne_zero _, by first | assumption | rfl | decide | omega | exact Nat.succ_ne_zero _⟩⟩ ?_
        refine tf_cV hx ftX10_text (nx := 7) (As := []) (rest := []) (st2 := [.int (nI A.2.2.1)]) (v_size (cs_T (N := N) hA hC)) rfl lX10_54 (by first | assumption | rfl | decide) rfl ⟨rfl, by decide, by decide, by decide, rfl, rfl⟩ ?_
        refine tf_go hx ftX10_text 1 [] 9 [some (.ref 4), some (.int (nI t)), none, none] [.int 40, .int (nI A.2.2.1)] S rfl ⟨by decide, by decide, rfl⟩ trivial ?_
        refine tf_go hx ftX10_text 1 [true] 19 [some (.ref 4), some (.int (nI t)), none, none] [] S rfl ⟨by decide, by decide, rfl⟩ ⟨trivial, (tf_leT (a := A.2.2.1) (b := 40) rfl (rfl : (40 : Int32) = nI 40) (by omega) (by omega) (by omega))⟩ ?_
        refine tf_go hx ftX10_text 3 [] 24 [some (.ref 4), some (.int (nI t)), none, none] [.int (nI t), .ref 109] S rfl ⟨by decide, by decide, rfl⟩ ⟨trivial, ⟨by first | assumption | rfl | decide | omega | exact Nat.succ_ne_zero _, by first | assumption | rfl | decide | omega | exact Nat.succ_ne_zero _⟩⟩ ?_
        refine tf_go hx ftX10_text 1 [false] 27 [some (.ref 4), some (.int (nI t)), none, none] [.ref 109] S rfl ⟨by decide, by decide, rfl⟩ ⟨trivial, (fun h => h (by rw [e0]; rfl))⟩ ?_
        refine tf_go hx ftX10_text 2 [] 32 [some (.ref 4), some (.int (nI t)), none, none] [.int 1, .ref 109] S rfl ⟨by decide, by decide, rfl⟩ trivial ?_
        refine tf_cS hx ftX10_text (nx := 35) (As := [.ref 109, .int 1]) (rest := []) (st2 := [.int (tf_on A.2.2.1 (tf_lf A.2.1 A.2.2.1 1))]) ((r_textFault 1 (cs_T (N := N) hA hC) hA4 (by decide))) rfl lX10_83 rfl ⟨rfl, by decide, by decide, by decide, rfl, rfl⟩ ?_
        refine tf_go hx ftX10_text 1 [] 36 [some (.ref 4), some (.int (nI t)), some (.int (tf_on A.2.2.1 (tf_lf A.2.1 A.2.2.1 1))), none] [] S rfl ⟨by decide, by decide, rfl⟩ trivial ?_
        rw [tf_on_y e2]
        refine tf_go hx ftX10_text 1 [] 37 [some (.ref 4), some (.int (nI t)), some (.int (nI (tf_lf A.2.1 A.2.2.1 1))), none] [.int (nI (tf_lf A.2.1 A.2.2.1 1))] S rfl ⟨by decide, by decide, rfl⟩ trivial ?_
        refine tf_go hx ftX10_text 1 [false] 40 [some (.ref 4), some (.int (nI t)), some (.int (nI (tf_lf A.2.1 A.2.2.1 1))), none] [] S rfl ⟨by decide, by decide, rfl⟩ ⟨trivial, (tf_ltF (a := (tf_lf A.2.1 A.2.2.1 1)) (b := 0) rfl (rfl : (0 : Int32) = nI 0) (by have := hA4 A.2.2.1; omega) (by have := hA4 A.2.2.1; omega) (by have := hA4 A.2.2.1; omega))⟩ ?_
        refine tf_go hx ftX10_text 3 [] 44 [some (.ref 4), some (.int (nI t)), some (.int (nI (tf_lf A.2.1 A.2.2.1 1))), none] [.int ((-20) - (nI (tf_lf A.2.1 A.2.2.1 1)))] S rfl ⟨by decide, by decide, rfl⟩ trivial ?_
        refine tf_go hx ftX10_text 1 [] 75 [some (.ref 4), some (.int (nI t)), some (.int (nI (tf_lf A.2.1 A.2.2.1 1))), none] [.int ((-20) - (nI (tf_lf A.2.1 A.2.2.1 1)))] S rfl ⟨by decide, by decide, rfl⟩ trivial ?_
        refine tf_go hx ftX10_text 1 [] 76 [some (.ref 4), some (.int (nI t)), some (.int (nI (tf_lf A.2.1 A.2.2.1 1))), some (.int ((-20) - (nI (tf_lf A.2.1 A.2.2.1 1))))] [] S rfl ⟨by decide, by decide, rfl⟩ trivial ?_
        refine tf_go hx ftX10_text 2 [] 80 [some (.ref 4), some (.int (nI t)), some (.int (nI (tf_lf A.2.1 A.2.2.1 1))), some (.int ((-20) - (nI (tf_lf A.2.1 A.2.2.1 1))))] [.ref 109] S rfl ⟨by decide, by decide, rfl⟩ ⟨trivial, ⟨by first | assumption | rfl | decide | omega | exact Nat.succ_ne_zero _, by first | assumption | rfl | decide | omega | exact Nat.succ_ne_zero _⟩⟩ ?_
        refine tf_cV hx ftX10_text (nx := 83) (As := []) (rest := []) (st2 := []) (c_clear rfl) rfl lX10_80 (by first | assumption | rfl | decide) rfl ⟨rfl, by decide, by decide, by decide, rfl, rfl⟩ ?_
        refine tf_go hx ftX10_text 1 [] 84 [some (.ref 4), some (.int (nI t)), some (.int (nI (tf_lf A.2.1 A.2.2.1 1))), some (.int ((-20) - (nI (tf_lf A.2.1 A.2.2.1 1))))] [.int ((-20) - (nI (tf_lf A.2.1 A.2.2.1 1)))] (tf_set S 109 1 0) rfl ⟨by decide, by decide, rfl⟩ trivial ?_
        exact tf_ret ftX10_text hR rfl ⟨by decide, by decide⟩ rfl rfl rfl
      · rw [if_neg e2]
        have hst : tf_st (tf_wr S 30 31 A.2.2.1 (fun j => nI (tf_tv2 (A.2.1 j)))) 5 (tf_u (tf_tw A.1 A.2.1 184 A.2.2.1) 365 A.2.2.1) := st_written hS hg (by omega)
        have fv := tf_lf_no e2
        have hcs : tf_cs (tf_set (tf_wr S 30 31 A.2.2.1 (fun j => nI (tf_tv2 (A.2.1 j)))) 109 1 0) ((tf_u (tf_tw A.1 A.2.1 184 A.2.2.1) 365 A.2.2.1), A.2.1, 0, A.2.2.2) := cs_g hA hC (fun a ha => by rw [tf_set_n (by omega), tf_wr_ne (by omega) (by omega)]) (tf_st_c hst (tf_tw_gd184 hA (by omega) fv) (fun a h1 h2 => tf_set_n (by omega))) tf_set_s (fun j => by rw [tf_set_n (by decide), tf_wr_ne (by decide) (by decide)]; exact hT2 j)
        refine ⟨tf_set (tf_wr S 30 31 A.2.2.1 (fun j => nI (tf_tv2 (A.2.1 j)))) 109 1 0, tf_Fn_of (own := RX10) false ⟨by decide, rfl, by decide⟩ (Nat.le_of_ble_eq_true rfl) trivial (fun x hx hR => ?_), hcs, (fun a ha => by rw [tf_set_n (by omega), tf_wr_ne (by omega) (by omega)])⟩
        show tf_K x 0 0 (tf_GG N) S 0 [some (.ref 4), some (.int (nI t)), none, none] []
        refine tf_go hx ftX10_text 2 [] 4 [some (.ref 4), some (.int (nI t)), none, none] [.ref 109] S rfl ⟨by decide, by decide, rfl⟩ ⟨trivial, ⟨by first | assumption | rfl | decide | omega | exact Nat.succ_ne_zero _, by first | assumption | rfl | decide | omega | exact Nat.succ_ne_zero _⟩⟩ ?_
        refine tf_cV hx ftX10_text (nx := 7) (As := []) (rest := []) (st2 := [.int (nI A.2.2.1)]) (v_size (cs_T (N := N) hA hC)) rfl lX10_54 (by first | assumption | rfl | decide) rfl ⟨rfl, by decide, by decide, by decide, rfl, rfl⟩ ?_
        refine tf_go hx ftX10_text 1 [] 9 [some (.ref 4), some (.int (nI t)), none, none] [.int 40, .int (nI A.2.2.1)] S rfl ⟨by decide, by decide, rfl⟩ trivial ?_
        refine tf_go hx ftX10_text 1 [true] 19 [some (.ref 4), some (.int (nI t)), none, none] [] S rfl ⟨by decide, by decide, rfl⟩ ⟨trivial, (tf_leT (a := A.2.2.1) (b := 40) rfl (rfl : (40 : Int32) = nI 40) (by omega) (by omega) (by omega))⟩ ?_
        refine tf_go hx ftX10_text 3 [] 24 [some (.ref 4), some (.int (nI t)), none, none] [.int (nI t), .ref 109] S rfl ⟨by decide, by decide, rfl⟩ ⟨trivial, ⟨by first | assumption | rfl | decide | omega | exact Nat.succ_ne_zero _, by first | assumption | rfl | decide | omega | exact Nat.succ_ne_zero _⟩⟩ ?_
        refine tf_go hx ftX10_text 1 [false] 27 [some (.ref 4), some (.int (nI t)), none, none] [.ref 109] S rfl ⟨by decide, by decide, rfl⟩ ⟨trivial, (fun h => h (by rw [e0]; rfl))⟩ ?_
        refine tf_go hx ftX10_text 2 [] 32 [some (.ref 4), some (.int (nI t)), none, none] [.int 1, .ref 109] S rfl ⟨by decide, by decide, rfl⟩ trivial ?_
        refine tf_cS hx ftX10_text (nx := 35) (As := [.ref 109, .int 1]) (rest := []) (st2 := [.int (tf_on A.2.2.1 (tf_lf A.2.1 A.2.2.1 1))]) ((r_textFault 1 (cs_T (N := N) hA hC) hA4 (by decide))) rfl lX10_83 rfl ⟨rfl, by decide, by decide, by decide, rfl, rfl⟩ ?_
        refine tf_go hx ftX10_text 1 [] 36 [some (.ref 4), some (.int (nI t)), some (.int (tf_on A.2.2.1 (tf_lf A.2.1 A.2.2.1 1))), none] [] S rfl ⟨by decide, by decide, rfl⟩ trivial ?_
        rw [tf_on_n e2]
        refine tf_go hx ftX10_text 1 [] 37 [some (.ref 4), some (.int (nI t)), some (.int (-9)), none] [.int (-9)] S rfl ⟨by decide, by decide, rfl⟩ trivial ?_
        refine tf_go hx ftX10_text 1 [true] 47 [some (.ref 4), some (.int (nI t)), some (.int (-9)), none] [] S rfl ⟨by decide, by decide, rfl⟩ ⟨trivial, (by decide)⟩ ?_
        refine tf_go hx ftX10_text 1 [] 48 [some (.ref 4), some (.int (nI t)), some (.int (-9)), none] [.int (nI t)] S rfl ⟨by decide, by decide, rfl⟩ trivial ?_
        refine tf_go hx ftX10_text 1 [true] 61 [some (.ref 4), some (.int (nI t)), some (.int (-9)), none] [] S rfl ⟨by decide, by decide, rfl⟩ ⟨trivial, (tf_eqT (a := t) (b := 0) rfl (rfl : (0 : Int32) = nI 0) (by omega))⟩ ?_
        refine tf_go hx ftX10_text 3 [] 68 [some (.ref 4), some (.int (nI t)), some (.int (-9)), none] [.ref 30] S rfl ⟨by decide, by decide, rfl⟩ ⟨⟨trivial, ⟨by first | assumption | rfl | decide | omega | exact Nat.succ_ne_zero _, by first | assumption | rfl | decide | omega | exact Nat.succ_ne_zero _⟩⟩, ⟨by first | assumption | rfl | decide | omega | exact Nat.succ_ne_zero _, by first | assumption | rfl | decide | omega | exact Nat.succ_ne_zero _⟩⟩ ?_
        refine tf_go hx ftX10_text 2 [] 72 [some (.ref 4), some (.int (nI t)), some (.int (-9)), none] [.ref 109, .ref 30] S rfl ⟨by decide, by decide, rfl⟩ ⟨trivial, ⟨by first | assumption | rfl | decide | omega | exact Nat.succ_ne_zero _, by first | assumption | rfl | decide | omega | exact Nat.succ_ne_zero _⟩⟩ ?_
        refine tf_cS hx ftX10_text (nx := 75) (As := [.ref 30, .ref 109]) (rest := []) (st2 := [.int (nI A.2.2.1)]) ((show tf_Fn mX4_signsInto 2 0 0 (tf_GG N) S [.ref 30, .ref 109] (tf_GG N) (tf_wr S 30 31 A.2.2.1 (fun j => nI (tf_tv2 (A.2.1 j)))) (some (.int (nI A.2.2.1))) from r_signsInto (se30 (N := N)) (cs_T (N := N) hA hC) hA4 (fun k hk => by rcases fv k hk with h | h; exact Or.inl h; exact Or.inr h.2) (by omega) (by decide) (by show 109 ≠ 31; decide) (by show 110 ≠ 30; decide) (by show 110 ≠ 31; decide))) rfl lX10_93 rfl ⟨rfl, by decide, by decide, by decide, rfl, rfl⟩ ?_
        refine tf_go hx ftX10_text 1 [] 76 [some (.ref 4), some (.int (nI t)), some (.int (-9)), some (.int (nI A.2.2.1))] [] (tf_wr S 30 31 A.2.2.1 (fun j => nI (tf_tv2 (A.2.1 j)))) rfl ⟨by decide, by decide, rfl⟩ trivial ?_
        refine tf_go hx ftX10_text 2 [] 80 [some (.ref 4), some (.int (nI t)), some (.int (-9)), some (.int (nI A.2.2.1))] [.ref 109] (tf_wr S 30 31 A.2.2.1 (fun j => nI (tf_tv2 (A.2.1 j)))) rfl ⟨by decide, by decide, rfl⟩ ⟨trivial, ⟨by first | assumption | rfl | decide | omega | exact Nat.succ_ne_zero _, by first | assumption | rfl | decide | omega | exact Nat.succ_ne_zero _⟩⟩ ?_
        refine tf_cV hx ftX10_text (nx := 83) (As := []) (rest := []) (st2 := []) (c_clear rfl) rfl lX10_80 (by first | assumption | rfl | decide) rfl ⟨rfl, by decide, by decide, by decide, rfl, rfl⟩ ?_
        refine tf_go hx ftX10_text 1 [] 84 [some (.ref 4), some (.int (nI t)), some (.int (-9)), some (.int (nI A.2.2.1))] [.int (nI A.2.2.1)] (tf_set (tf_wr S 30 31 A.2.2.1 (fun j => nI (tf_tv2 (A.2.1 j)))) 109 1 0) rfl ⟨by decide, by decide, rfl⟩ trivial ?_
        exact tf_ret ftX10_text hR rfl ⟨by decide, by decide⟩ rfl rfl rfl
    · rw [show (if t ≠ 0 then 0 else 1) = 0 from if_pos e0, show (if t ≠ 0 then 364 else 365) = 364 from if_pos e0, show (if t ≠ 0 then 144 else 184) = 144 from if_pos e0]
      by_cases e2 : tf_lf A.2.1 A.2.2.1 0 < A.2.2.1
      · rw [if_pos e2]
        refine ⟨tf_set S 109 1 0, tf_Fn_of (own := RX10) false ⟨by decide, rfl, by decide⟩ (Nat.le_of_ble_eq_true rfl) trivial (fun x hx hR => ?_), cs_t hA hC 0, fc_set (by omega)⟩
        show tf_K x 0 0 (tf_GG N) S 0 [some (.ref 4), some (.int (nI t)), none, none] []
        refine tf_go hx ftX10_text 2 [] 4 [some (.ref 4), some (.int (nI t)), none, none] [.ref 109] S rfl ⟨by decide, by decide, rfl⟩ ⟨trivial, ⟨by first | assumption | rfl | decide | omega | exact Nat.succ_ne_zero _, by first | assumption | rfl | decide | omega | exact Nat.succ_ne_zero _⟩⟩ ?_
        refine tf_cV hx ftX10_text (nx := 7) (As := []) (rest := []) (st2 := [.int (nI A.2.2.1)]) (v_size (cs_T (N := N) hA hC)) rfl lX10_54 (by first | assumption | rfl | decide) rfl ⟨rfl, by decide, by decide, by decide, rfl, rfl⟩ ?_
        refine tf_go hx ftX10_text 1 [] 9 [some (.ref 4), some (.int (nI t)), none, none] [.int 40, .int (nI A.2.2.1)] S rfl ⟨by decide, by decide, rfl⟩ trivial ?_
        refine tf_go hx ftX10_text 1 [true] 19 [some (.ref 4), some (.int (nI t)), none, none] [] S rfl ⟨by decide, by decide, rfl⟩ ⟨trivial, (tf_leT (a := A.2.2.1) (b := 40) rfl (rfl : (40 : Int32) = nI 40) (by omega) (by omega) (by omega))⟩ ?_
        refine tf_go hx ftX10_text 3 [] 24 [some (.ref 4), some (.int (nI t)), none, none] [.int (nI t), .ref 109] S rfl ⟨by decide, by decide, rfl⟩ ⟨trivial, ⟨by first | assumption | rfl | decide | omega | exact Nat.succ_ne_zero _, by first | assumption | rfl | decide | omega | exact Nat.succ_ne_zero _⟩⟩ ?_
        refine tf_go hx ftX10_text 1 [true] 31 [some (.ref 4), some (.int (nI t)), none, none] [.ref 109] S rfl ⟨by decide, by decide, rfl⟩ ⟨trivial, (tf_neF2 ht e0)⟩ ?_
        refine tf_go hx ftX10_text 1 [] 32 [some (.ref 4), some (.int (nI t)), none, none] [.int 0, .ref 109] S rfl ⟨by decide, by decide, rfl⟩ trivial ?_
        refine tf_cS hx ftX10_text (nx := 35) (As := [.ref 109, .int 0]) (rest := []) (st2 := [.int (tf_on A.2.2.1 (tf_lf A.2.1 A.2.2.1 0))]) ((r_textFault 0 (cs_T (N := N) hA hC) hA4 (by decide))) rfl lX10_83 rfl ⟨rfl, by decide, by decide, by decide, rfl, rfl⟩ ?_
        refine tf_go hx ftX10_text 1 [] 36 [some (.ref 4), some (.int (nI t)), some (.int (tf_on A.2.2.1 (tf_lf A.2.1 A.2.2.1 0))), none] [] S rfl ⟨by decide, by decide, rfl⟩ trivial ?_
        rw [tf_on_y e2]
        refine tf_go hx ftX10_text 1 [] 37 [some (.ref 4), some (.int (nI t)), some (.int (nI (tf_lf A.2.1 A.2.2.1 0))), none] [.int (nI (tf_lf A.2.1 A.2.2.1 0))] S rfl ⟨by decide, by decide, rfl⟩ trivial ?_
        refine tf_go hx ftX10_text 1 [false] 40 [some (.ref 4), some (.int (nI t)), some (.int (nI (tf_lf A.2.1 A.2.2.1 0))), none] [] S rfl ⟨by decide, by decide, rfl⟩ ⟨trivial, (tf_ltF (a := (tf_lf A.2.1 A.2.2.1 0)) (b := 0) rfl (rfl : (0 : Int32) = nI 0) (by have := hA4 A.2.2.1; omega) (by have := hA4 A.2.2.1; omega) (by have := hA4 A.2.2.1; omega))⟩ ?_
        refine tf_go hx ftX10_text 3 [] 44 [some (.ref 4), some (.int (nI t)), some (.int (nI (tf_lf A.2.1 A.2.2.1 0))), none] [.int ((-20) - (nI (tf_lf A.2.1 A.2.2.1 0)))] S rfl ⟨by decide, by decide, rfl⟩ trivial ?_
        refine tf_go hx ftX10_text 1 [] 75 [some (.ref 4), some (.int (nI t)), some (.int (nI (tf_lf A.2.1 A.2.2.1 0))), none] [.int ((-20) - (nI (tf_lf A.2.1 A.2.2.1 0)))] S rfl ⟨by decide, by decide, rfl⟩ trivial ?_
        refine tf_go hx ftX10_text 1 [] 76 [some (.ref 4), some (.int (nI t)), some (.int (nI (tf_lf A.2.1 A.2.2.1 0))), some (.int ((-20) - (nI (tf_lf A.2.1 A.2.2.1 0))))] [] S rfl ⟨by decide, by decide, rfl⟩ trivial ?_
        refine tf_go hx ftX10_text 2 [] 80 [some (.ref 4), some (.int (nI t)), some (.int (nI (tf_lf A.2.1 A.2.2.1 0))), some (.int ((-20) - (nI (tf_lf A.2.1 A.2.2.1 0))))] [.ref 109] S rfl ⟨by decide, by decide, rfl⟩ ⟨trivial, ⟨by first | assumption | rfl | decide | omega | exact Nat.succ_ne_zero _, by first | assumption | rfl | decide | omega | exact Nat.succ_ne_zero _⟩⟩ ?_
        refine tf_cV hx ftX10_text (nx := 83) (As := []) (rest := []) (st2 := []) (c_clear rfl) rfl lX10_80 (by first | assumption | rfl | decide) rfl ⟨rfl, by decide, by decide, by decide, rfl, rfl⟩ ?_
        refine tf_go hx ftX10_text 1 [] 84 [some (.ref 4), some (.int (nI t)), some (.int (nI (tf_lf A.2.1 A.2.2.1 0))), some (.int ((-20) - (nI (tf_lf A.2.1 A.2.2.1 0))))] [.int ((-20) - (nI (tf_lf A.2.1 A.2.2.1 0)))] (tf_set S 109 1 0) rfl ⟨by decide, by decide, rfl⟩ trivial ?_
        exact tf_ret ftX10_text hR rfl ⟨by decide, by decide⟩ rfl rfl rfl
      · rw [if_neg e2]
        have hst : tf_st (tf_wr S 28 29 A.2.2.1 (fun j => nI (tf_tv2 (A.2.1 j)))) 5 (tf_u (tf_tw A.1 A.2.1 144 A.2.2.1) 364 A.2.2.1) := st_meant hS hg (by omega)
        have fv := tf_lf_no e2
        have hcs : tf_cs (tf_set (tf_wr S 28 29 A.2.2.1 (fun j => nI (tf_tv2 (A.2.1 j)))) 109 1 0) ((tf_u (tf_tw A.1 A.2.1 144 A.2.2.1) 364 A.2.2.1), A.2.1, 0, A.2.2.2) := cs_g hA hC (fun a ha => by rw [tf_set_n (by omega), tf_wr_ne (by omega) (by omega)]) (tf_st_c hst (tf_tw_gd144 hA (by omega) fv) (fun a h1 h2 => tf_set_n (by omega))) tf_set_s (fun j => by rw [tf_set_n (by decide), tf_wr_ne (by decide) (by decide)]; exact hT2 j)
        refine ⟨tf_set (tf_wr S 28 29 A.2.2.1 (fun j => nI (tf_tv2 (A.2.1 j)))) 109 1 0, tf_Fn_of (own := RX10) false ⟨by decide, rfl, by decide⟩ (Nat.le_of_ble_eq_true rfl) trivial (fun x hx hR => ?_), hcs, (fun a ha => by rw [tf_set_n (by omega), tf_wr_ne (by omega) (by omega)])⟩
        show tf_K x 0 0 (tf_GG N) S 0 [some (.ref 4), some (.int (nI t)), none, none] []
        refine tf_go hx ftX10_text 2 [] 4 [some (.ref 4), some (.int (nI t)), none, none] [.ref 109] S rfl ⟨by decide, by decide, rfl⟩ ⟨trivial, ⟨by first | assumption | rfl | decide | omega | exact Nat.succ_ne_zero _, by first | assumption | rfl | decide | omega | exact Nat.succ_ne_zero _⟩⟩ ?_
        refine tf_cV hx ftX10_text (nx := 7) (As := []) (rest := []) (st2 := [.int (nI A.2.2.1)]) (v_size (cs_T (N := N) hA hC)) rfl lX10_54 (by first | assumption | rfl | decide) rfl ⟨rfl, by decide, by decide, by decide, rfl, rfl⟩ ?_
        refine tf_go hx ftX10_text 1 [] 9 [some (.ref 4), some (.int (nI t)), none, none] [.int 40, .int (nI A.2.2.1)] S rfl ⟨by decide, by decide, rfl⟩ trivial ?_
        refine tf_go hx ftX10_text 1 [true] 19 [some (.ref 4), some (.int (nI t)), none, none] [] S rfl ⟨by decide, by decide, rfl⟩ ⟨trivial, (tf_leT (a := A.2.2.1) (b := 40) rfl (rfl : (40 : Int32) = nI 40) (by omega) (by omega) (by omega))⟩ ?_
        refine tf_go hx ftX10_text 3 [] 24 [some (.ref 4), some (.int (nI t)), none, none] [.int (nI t), .ref 109] S rfl ⟨by decide, by decide, rfl⟩ ⟨trivial, ⟨by first | assumption | rfl | decide | omega | exact Nat.succ_ne_zero _, by first | assumption | rfl | decide | omega | exact Nat.succ_ne_zero _⟩⟩ ?_
        refine tf_go hx ftX10_text 1 [true] 31 [some (.ref 4), some (.int (nI t)), none, none] [.ref 109] S rfl ⟨by decide, by decide, rfl⟩ ⟨trivial, (tf_neF2 ht e0)⟩ ?_
        refine tf_go hx ftX10_text 1 [] 32 [some (.ref 4), some (.int (nI t)), none, none] [.int 0, .ref 109] S rfl ⟨by decide, by decide, rfl⟩ trivial ?_
        refine tf_cS hx ftX10_text (nx := 35) (As := [.ref 109, .int 0]) (rest := []) (st2 := [.int (tf_on A.2.2.1 (tf_lf A.2.1 A.2.2.1 0))]) ((r_textFault 0 (cs_T (N := N) hA hC) hA4 (by decide))) rfl lX10_83 rfl ⟨rfl, by decide, by decide, by decide, rfl, rfl⟩ ?_
        refine tf_go hx ftX10_text 1 [] 36 [some (.ref 4), some (.int (nI t)), some (.int (tf_on A.2.2.1 (tf_lf A.2.1 A.2.2.1 0))), none] [] S rfl ⟨by decide, by decide, rfl⟩ trivial ?_
        rw [tf_on_n e2]
        refine tf_go hx ftX10_text 1 [] 37 [some (.ref 4), some (.int (nI t)), some (.int (-9)), none] [.int (-9)] S rfl ⟨by decide, by decide, rfl⟩ trivial ?_
        refine tf_go hx ftX10_text 1 [true] 47 [some (.ref 4), some (.int (nI t)), some (.int (-9)), none] [] S rfl ⟨by decide, by decide, rfl⟩ ⟨trivial, (by decide)⟩ ?_
        refine tf_go hx ftX10_text 1 [] 48 [some (.ref 4), some (.int (nI t)), some (.int (-9)), none] [.int (nI t)] S rfl ⟨by decide, by decide, rfl⟩ trivial ?_
        refine tf_go hx ftX10_text 1 [false] 51 [some (.ref 4), some (.int (nI t)), some (.int (-9)), none] [] S rfl ⟨by decide, by decide, rfl⟩ ⟨trivial, (tf_neF2 ht e0)⟩ ?_
        refine tf_go hx ftX10_text 3 [] 58 [some (.ref 4), some (.int (nI t)), some (.int (-9)), none] [.ref 28] S rfl ⟨by decide, by decide, rfl⟩ ⟨⟨trivial, ⟨by first | assumption | rfl | decide | omega | exact Nat.succ_ne_zero _, by first | assumption | rfl | decide | omega | exact Nat.succ_ne_zero _⟩⟩, ⟨by first | assumption | rfl | decide | omega | exact Nat.succ_ne_zero _, by first | assumption | rfl | decide | omega | exact Nat.succ_ne_zero _⟩⟩ ?_
        refine tf_go hx ftX10_text 1 [] 68 [some (.ref 4), some (.int (nI t)), some (.int (-9)), none] [.ref 28] S rfl ⟨by decide, by decide, rfl⟩ trivial ?_
        refine tf_go hx ftX10_text 2 [] 72 [some (.ref 4), some (.int (nI t)), some (.int (-9)), none] [.ref 109, .ref 28] S rfl ⟨by decide, by decide, rfl⟩ ⟨trivial, ⟨by first | assumption | rfl | decide | omega | exact Nat.succ_ne_zero _, by first | assumption | rfl | decide | omega | exact Nat.succ_ne_zero _⟩⟩ ?_
        refine tf_cS hx ftX10_text (nx := 75) (As := [.ref 28, .ref 109]) (rest := []) (st2 := [.int (nI A.2.2.1)]) ((show tf_Fn mX4_signsInto 2 0 0 (tf_GG N) S [.ref 28, .ref 109] (tf_GG N) (tf_wr S 28 29 A.2.2.1 (fun j => nI (tf_tv2 (A.2.1 j)))) (some (.int (nI A.2.2.1))) from r_signsInto (se28 (N := N)) (cs_T (N := N) hA hC) hA4 (fun k hk => by rcases fv k hk with h | h; exact Or.inl h; exact Or.inr h.2) (by omega) (by decide) (by show 109 ≠ 29; decide) (by show 110 ≠ 28; decide) (by show 110 ≠ 29; decide))) rfl lX10_93 rfl ⟨rfl, by decide, by decide, by decide, rfl, rfl⟩ ?_
        refine tf_go hx ftX10_text 1 [] 76 [some (.ref 4), some (.int (nI t)), some (.int (-9)), some (.int (nI A.2.2.1))] [] (tf_wr S 28 29 A.2.2.1 (fun j => nI (tf_tv2 (A.2.1 j)))) rfl ⟨by decide, by decide, rfl⟩ trivial ?_
        refine tf_go hx ftX10_text 2 [] 80 [some (.ref 4), some (.int (nI t)), some (.int (-9)), some (.int (nI A.2.2.1))] [.ref 109] (tf_wr S 28 29 A.2.2.1 (fun j => nI (tf_tv2 (A.2.1 j)))) rfl ⟨by decide, by decide, rfl⟩ ⟨trivial, ⟨by first | assumption | rfl | decide | omega | exact Nat.succ_ne_zero _, by first | assumption | rfl | decide | omega | exact Nat.succ_ne_zero _⟩⟩ ?_
        refine tf_cV hx ftX10_text (nx := 83) (As := []) (rest := []) (st2 := []) (c_clear rfl) rfl lX10_80 (by first | assumption | rfl | decide) rfl ⟨rfl, by decide, by decide, by decide, rfl, rfl⟩ ?_
        refine tf_go hx ftX10_text 1 [] 84 [some (.ref 4), some (.int (nI t)), some (.int (-9)), some (.int (nI A.2.2.1))] [.int (nI A.2.2.1)] (tf_set (tf_wr S 28 29 A.2.2.1 (fun j => nI (tf_tv2 (A.2.1 j)))) 109 1 0) rfl ⟨by decide, by decide, rfl⟩ trivial ?_
        exact tf_ret ftX10_text hR rfl ⟨by decide, by decide⟩ rfl rfl rfl

