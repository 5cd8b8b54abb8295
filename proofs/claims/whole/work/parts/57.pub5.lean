set_option maxHeartbeats 2000000 in
theorem c_feed {N : Nat} {S : tf_Sg} {A : tf_A} (n : Int32) (y : Int64) (hA : tf_okA A) (hC : tf_cs S A)  : tf_cpq mX10_feed 2 N S [.ref 4, .int n, .long y] (s_feed A n y) := by
  obtain ⟨hg, hb, hA3, hA4, hA5, hA6⟩ := id hA
  obtain ⟨h1j, hS, hK5, ⟨hT1, hT2⟩, hRf, hIm⟩ := id hC
  obtain ⟨⟨g1, g2, g3, g4⟩, g5, g6, g7, g8, g9, g10, g11⟩ := id hg
  unfold s_feed
  by_cases e1 : n < 1
  · rw [if_pos e1]
    refine ⟨tf_set S 124 4 (S 124 4 + 1), tf_Fn_of (own := RX10) false ⟨by decide, rfl, by decide⟩ (Nat.le_of_ble_eq_true rfl) trivial (fun x hx hR => ?_), cs_ref hA hC 4, fc_set (by omega)⟩
    show tf_K x 0 0 (tf_GG N) S 0 [some (.ref 4), some (.int n), some (.long y), none, none] []
    refine tf_go hx ftX10_feed 2 [] 2 [some (.ref 4), some (.int n), some (.long y), none, none] [.int 1, .int n] S rfl ⟨by decide, by decide, rfl⟩ trivial ?_
    refine tf_go hx ftX10_feed 1 [false] 5 [some (.ref 4), some (.int n), some (.long y), none, none] [] S rfl ⟨by decide, by decide, rfl⟩ ⟨trivial, (Int32.not_le.mpr e1)⟩ ?_
    refine tf_go hx ftX10_feed 2 [] 8 [some (.ref 4), some (.int n), some (.long y), none, none] [.int (-4), .ref 4] S rfl ⟨by decide, by decide, rfl⟩ trivial ?_
    refine tf_cV hx ftX10_feed (nx := 11) (As := [.int (-4)]) (rest := []) (st2 := [.int (-4)]) (n_ref4) rfl lX10_50 (by first | assumption | rfl | decide) rfl ⟨rfl, by decide, by decide, by decide, rfl, rfl⟩ ?_
    exact tf_ret ftX10_feed hR rfl ⟨by decide, by decide⟩ rfl rfl rfl
  · by_cases e2 : 8 < n
    · rw [if_neg e1, if_pos (Or.inl e2)]
      refine ⟨tf_set S 124 6 (S 124 6 + 1), tf_Fn_of (own := RX10) false ⟨by decide, rfl, by decide⟩ (Nat.le_of_ble_eq_true rfl) trivial (fun x hx hR => ?_), cs_ref hA hC 6, fc_set (by omega)⟩
      show tf_K x 0 0 (tf_GG N) S 0 [some (.ref 4), some (.int n), some (.long y), none, none] []
      refine tf_go hx ftX10_feed 2 [] 2 [some (.ref 4), some (.int n), some (.long y), none, none] [.int 1, .int n] S rfl ⟨by decide, by decide, rfl⟩ trivial ?_
      refine tf_go hx ftX10_feed 1 [true] 12 [some (.ref 4), some (.int n), some (.long y), none, none] [] S rfl ⟨by decide, by decide, rfl⟩ ⟨trivial, (Int32.not_lt.mp e1)⟩ ?_
      refine tf_go hx ftX10_feed 2 [] 15 [some (.ref 4), some (.int n), some (.long y), none, none] [.int 8, .int n] S rfl ⟨by decide, by decide, rfl⟩ trivial ?_
      refine tf_go hx ftX10_feed 1 [true] 32 [some (.ref 4), some (.int n), some (.long y), none, none] [] S rfl ⟨by decide, by decide, rfl⟩ ⟨trivial, e2⟩ ?_
      refine tf_go hx ftX10_feed 2 [] 35 [some (.ref 4), some (.int n), some (.long y), none, none] [.int (-6), .ref 4] S rfl ⟨by decide, by decide, rfl⟩ trivial ?_
      refine tf_cV hx ftX10_feed (nx := 38) (As := [.int (-6)]) (rest := []) (st2 := [.int (-6)]) (n_ref6) rfl lX10_50 (by first | assumption | rfl | decide) rfl ⟨rfl, by decide, by decide, by decide, rfl, rfl⟩ ?_
      exact tf_ret ftX10_feed hR rfl ⟨by decide, by decide⟩ rfl rfl rfl
    · obtain ⟨n1, n1_le, n1_eq⟩ := nI_of2 (M := 8) (n := 8) (x := n) (by decide) (fun h => e1 (Int32.lt_trans h (by decide))) (Int32.not_lt.mp e2)
      have n1_cl : n.toNatClampNeg = n1 := by rw [n1_eq]; exact tf_cl_nI (by omega)
      try rw [n1_cl]
      subst n1_eq
      by_cases e3 : 48 < A.2.2.1 + n1
      · rw [if_neg e1, if_pos (Or.inr e3)]
        refine ⟨tf_set S 124 6 (S 124 6 + 1), tf_Fn_of (own := RX10) false ⟨by decide, rfl, by decide⟩ (Nat.le_of_ble_eq_true rfl) trivial (fun x hx hR => ?_), cs_ref hA hC 6, fc_set (by omega)⟩
        show tf_K x 0 0 (tf_GG N) S 0 [some (.ref 4), some (.int (nI n1)), some (.long y), none, none] []
        refine tf_go hx ftX10_feed 2 [] 2 [some (.ref 4), some (.int (nI n1)), some (.long y), none, none] [.int 1, .int (nI n1)] S rfl ⟨by decide, by decide, rfl⟩ trivial ?_
        refine tf_go hx ftX10_feed 1 [true] 12 [some (.ref 4), some (.int (nI n1)), some (.long y), none, none] [] S rfl ⟨by decide, by decide, rfl⟩ ⟨trivial, (Int32.not_lt.mp e1)⟩ ?_
        refine tf_go hx ftX10_feed 2 [] 15 [some (.ref 4), some (.int (nI n1)), some (.long y), none, none] [.int 8, .int (nI n1)] S rfl ⟨by decide, by decide, rfl⟩ trivial ?_
        refine tf_go hx ftX10_feed 1 [false] 18 [some (.ref 4), some (.int (nI n1)), some (.long y), none, none] [] S rfl ⟨by decide, by decide, rfl⟩ ⟨trivial, e2⟩ ?_
        refine tf_go hx ftX10_feed 4 [] 25 [some (.ref 4), some (.int (nI n1)), some (.long y), none, none] [.ref 109, .int 48, .int (nI n1)] S rfl ⟨by decide, by decide, rfl⟩ ⟨trivial, ⟨by first | assumption | rfl | decide | omega | exact Nat.succ_ne_zero _, by first | assumption | rfl | decide | omega | exact Nat.succ_ne_zero _⟩⟩ ?_
        refine tf_cV hx ftX10_feed (nx := 28) (As := []) (rest := [.int 48, .int (nI n1)]) (st2 := [.int (nI A.2.2.1), .int 48, .int (nI n1)]) (v_size (cs_T hA hC)) rfl lX10_54 (by first | assumption | rfl | decide) rfl ⟨rfl, by decide, by decide, by decide, rfl, rfl⟩ ?_
        refine tf_go hx ftX10_feed 1 [] 29 [some (.ref 4), some (.int (nI n1)), some (.long y), none, none] [.int (48 - (nI A.2.2.1)), .int (nI n1)] S rfl ⟨by decide, by decide, rfl⟩ trivial ?_
        rw [show (48 - (nI A.2.2.1)) = nI (48 - A.2.2.1) from (tf_sub (a := 48) (b := A.2.2.1) (rfl : (48 : Int32) = nI 48) rfl (by omega))]
        refine tf_go hx ftX10_feed 1 [false] 32 [some (.ref 4), some (.int (nI n1)), some (.long y), none, none] [] S rfl ⟨by decide, by decide, rfl⟩ ⟨trivial, (tf_leF (a := n1) (b := (48 - A.2.2.1)) rfl rfl (by omega) (by omega) (by omega))⟩ ?_
        refine tf_go hx ftX10_feed 2 [] 35 [some (.ref 4), some (.int (nI n1)), some (.long y), none, none] [.int (-6), .ref 4] S rfl ⟨by decide, by decide, rfl⟩ trivial ?_
        refine tf_cV hx ftX10_feed (nx := 38) (As := [.int (-6)]) (rest := []) (st2 := [.int (-6)]) (n_ref6) rfl lX10_50 (by first | assumption | rfl | decide) rfl ⟨rfl, by decide, by decide, by decide, rfl, rfl⟩ ?_
        exact tf_ret ftX10_feed hR rfl ⟨by decide, by decide⟩ rfl rfl rfl
      · rw [if_neg e1, if_neg (by rintro (h | h); exact e2 h; exact e3 h)]
        have hcs : tf_cs (tf_rw (tf_set S 109 1 (nI (A.2.2.1 + n1))) 110 (tf_fd A.2.1 A.2.2.1 y n1)) (A.1, tf_fd A.2.1 A.2.2.1 y n1, A.2.2.1 + n1, A.2.2.2) := cs_g hA hC (fun a ha => by rw [tf_rw_n (by omega), tf_set_n (by omega)]) (tf_st_c hS hg (fun a h1 h2 => by rw [tf_rw_n (by omega), tf_set_n (by omega)])) (by rw [tf_rw_n (by decide), tf_set_s]) (fun j => tf_rw_a j)
        have sv : ∀ k, A.2.2.1 + k ≤ 48 → tf_sV (tf_GG N) (tf_rw (tf_set S 109 1 (nI (A.2.2.1 + k))) 110 (tf_fd A.2.1 A.2.2.1 y k)) 109 48 (A.2.2.1 + k) (fun j => nI (tf_fd A.2.1 A.2.2.1 y k j)) := fun k hk => ⟨se109, by rw [tf_rw_n (by decide), tf_set_s], hk, fun j _ => tf_rw_a j⟩
        refine ⟨(tf_rw (tf_set S 109 1 (nI (A.2.2.1 + n1))) 110 (tf_fd A.2.1 A.2.2.1 y n1)), tf_Fn_of (own := RX10) false ⟨by decide, rfl, by decide⟩ (Nat.le_of_ble_eq_true rfl) trivial (fun x hx hR => ?_), hcs, (fun a ha => by rw [tf_rw_n (by omega), tf_set_n (by omega)])⟩
        show tf_K x 0 0 (tf_GG N) S 0 [some (.ref 4), some (.int (nI n1)), some (.long y), none, none] []
        refine tf_go hx ftX10_feed 2 [] 2 [some (.ref 4), some (.int (nI n1)), some (.long y), none, none] [.int 1, .int (nI n1)] S rfl ⟨by decide, by decide, rfl⟩ trivial ?_
        refine tf_go hx ftX10_feed 1 [true] 12 [some (.ref 4), some (.int (nI n1)), some (.long y), none, none] [] S rfl ⟨by decide, by decide, rfl⟩ ⟨trivial, (Int32.not_lt.mp e1)⟩ ?_
        refine tf_go hx ftX10_feed 2 [] 15 [some (.ref 4), some (.int (nI n1)), some (.long y), none, none] [.int 8, .int (nI n1)] S rfl ⟨by decide, by decide, rfl⟩ trivial ?_
        refine tf_go hx ftX10_feed 1 [false] 18 [some (.ref 4), some (.int (nI n1)), some (.long y), none, none] [] S rfl ⟨by decide, by decide, rfl⟩ ⟨trivial, e2⟩ ?_
        refine tf_go hx ftX10_feed 4 [] 25 [some (.ref 4), some (.int (nI n1)), some (.long y), none, none] [.ref 109, .int 48, .int (nI n1)] S rfl ⟨by decide, by decide, rfl⟩ ⟨trivial, ⟨by first | assumption | rfl | decide | omega | exact Nat.succ_ne_zero _, by first | assumption | rfl | decide | omega | exact Nat.succ_ne_zero _⟩⟩ ?_
        refine tf_cV hx ftX10_feed (nx := 28) (As := []) (rest := [.int 48, .int (nI n1)]) (st2 := [.int (nI A.2.2.1), .int 48, .int (nI n1)]) (v_size (cs_T hA hC)) rfl lX10_54 (by first | assumption | rfl | decide) rfl ⟨rfl, by decide, by decide, by decide, rfl, rfl⟩ ?_
        refine tf_go hx ftX10_feed 1 [] 29 [some (.ref 4), some (.int (nI n1)), some (.long y), none, none] [.int (48 - (nI A.2.2.1)), .int (nI n1)] S rfl ⟨by decide, by decide, rfl⟩ trivial ?_
        rw [show (48 - (nI A.2.2.1)) = nI (48 - A.2.2.1) from (tf_sub (a := 48) (b := A.2.2.1) (rfl : (48 : Int32) = nI 48) rfl (by omega))]
        refine tf_go hx ftX10_feed 1 [true] 39 [some (.ref 4), some (.int (nI n1)), some (.long y), none, none] [] S rfl ⟨by decide, by decide, rfl⟩ ⟨trivial, (tf_leT (a := n1) (b := (48 - A.2.2.1)) rfl rfl (by omega) (by omega) (by omega))⟩ ?_
        refine tf_go hx ftX10_feed 2 [] 42 [some (.ref 4), some (.int (nI n1)), some (.long y), none, some (.int 0)] [] S rfl ⟨by decide, by decide, rfl⟩ trivial ?_
        have hid : (tf_rw (tf_set S 109 1 (nI (A.2.2.1 + 0))) 110 (tf_fd A.2.1 A.2.2.1 y 0)) = S := by rw [tf_fd_0, Nat.add_zero, tf_set_id hT1, tf_rw_id hT2]
        have loop : ∀ (m k : Nat), k + m = n1 → tf_K x 0 0 (tf_GG N) (tf_rw (tf_set S 109 1 (nI (A.2.2.1 + k))) 110 (tf_fd A.2.1 A.2.2.1 y k)) 42 [some (.ref 4), some (.int (nI n1)), some (.long y), none, some (.int (nI k))] [] := by
          intro m
          induction m with
          | zero =>
            intro k hk
            rw [show k = n1 by omega]
            refine tf_go hx ftX10_feed 2 [] 45 [some (.ref 4), some (.int (nI n1)), some (.long y), none, some (.int (nI n1))] [.int (nI n1), .int (nI n1)] (tf_rw (tf_set S 109 1 (nI (A.2.2.1 + n1))) 110 (tf_fd A.2.1 A.2.2.1 y n1)) rfl ⟨by decide, by decide, rfl⟩ trivial ?_
            refine tf_go hx ftX10_feed 1 [true] 73 [some (.ref 4), some (.int (nI n1)), some (.long y), none, some (.int (nI n1))] [] (tf_rw (tf_set S 109 1 (nI (A.2.2.1 + n1))) 110 (tf_fd A.2.1 A.2.2.1 y n1)) rfl ⟨by decide, by decide, rfl⟩ ⟨trivial, (tf_leT (a := n1) (b := n1) rfl rfl (by omega) (by omega) (by omega))⟩ ?_
            refine tf_go hx ftX10_feed 2 [] 77 [some (.ref 4), some (.int (nI n1)), some (.long y), none, some (.int (nI n1))] [.ref 109] (tf_rw (tf_set S 109 1 (nI (A.2.2.1 + n1))) 110 (tf_fd A.2.1 A.2.2.1 y n1)) rfl ⟨by decide, by decide, rfl⟩ ⟨trivial, ⟨by first | assumption | rfl | decide | omega | exact Nat.succ_ne_zero _, by first | assumption | rfl | decide | omega | exact Nat.succ_ne_zero _⟩⟩ ?_
            refine tf_cV hx ftX10_feed (nx := 80) (As := []) (rest := []) (st2 := [.int (nI (A.2.2.1 + n1))]) (v_size (sv n1 (by omega))) rfl lX10_54 (by first | assumption | rfl | decide) rfl ⟨rfl, by decide, by decide, by decide, rfl, rfl⟩ ?_
            exact tf_ret ftX10_feed hR rfl ⟨by decide, by decide⟩ rfl rfl rfl
          | succ m ih =>
            intro k hk
            have k8 : k < 8 := by omega
            refine tf_go hx ftX10_feed 2 [] 45 [some (.ref 4), some (.int (nI n1)), some (.long y), none, some (.int (nI k))] [.int (nI n1), .int (nI k)] (tf_rw (tf_set S 109 1 (nI (A.2.2.1 + k))) 110 (tf_fd A.2.1 A.2.2.1 y k)) rfl ⟨by decide, by decide, rfl⟩ trivial ?_
            refine tf_go hx ftX10_feed 1 [false] 48 [some (.ref 4), some (.int (nI n1)), some (.long y), none, some (.int (nI k))] [] (tf_rw (tf_set S 109 1 (nI (A.2.2.1 + k))) 110 (tf_fd A.2.1 A.2.2.1 y k)) rfl ⟨by decide, by decide, rfl⟩ ⟨trivial, (tf_leF (a := n1) (b := k) rfl rfl (by omega) (by omega) (by omega))⟩ ?_
            refine tf_go hx ftX10_feed 10 [] 64 [some (.ref 4), some (.int (nI n1)), some (.long y), none, some (.int (nI k))] [.int ((((y).toUInt64 >>> (((8 * (nI k)) : Int32).toInt64.toUInt64 &&& Int64.toUInt64 63)).toInt64).toInt32 &&& 255), .ref 109] (tf_rw (tf_set S 109 1 (nI (A.2.2.1 + k))) 110 (tf_fd A.2.1 A.2.2.1 y k)) rfl ⟨by decide, by decide, rfl⟩ ⟨trivial, ⟨by first | assumption | rfl | decide | omega | exact Nat.succ_ne_zero _, by first | assumption | rfl | decide | omega | exact Nat.succ_ne_zero _⟩⟩ ?_
            rw [show ((((y).toUInt64 >>> (((8 * (nI k)) : Int32).toInt64.toUInt64 &&& Int64.toUInt64 63)).toInt64).toInt32 &&& 255) = nI (tf_by y k) from tf_by_c y k8]
            refine tf_cV hx ftX10_feed (nx := 67) (As := [.int (nI (tf_by y k))]) (rest := []) (st2 := []) ((show tf_Fn mX5_add 1 0 0 (tf_GG N) (tf_rw (tf_set S 109 1 (nI (A.2.2.1 + k))) 110 (tf_fd A.2.1 A.2.2.1 y k)) [.ref 109, .int (nI (tf_by y k))] (tf_GG N) (tf_rw (tf_set S 109 1 (nI (A.2.2.1 + (k + 1)))) 110 (tf_fd A.2.1 A.2.2.1 y (k + 1))) none from (by have h := v_add (sv k (by omega)) (nI (tf_by y k)) (by omega); have e : tf_ap (tf_rw (tf_set S 109 1 (nI (A.2.2.1 + k))) 110 (tf_fd A.2.1 A.2.2.1 y k)) 109 110 (A.2.2.1 + k) (nI (tf_by y k)) = (tf_rw (tf_set S 109 1 (nI (A.2.2.1 + (k + 1)))) 110 (tf_fd A.2.1 A.2.2.1 y (k + 1))) := (by unfold tf_ap; rw [tf_rw_u2, tf_fd_s, tf_sr1 (by decide), Nat.add_assoc]); rw [← e]; exact h))) rfl lX10_58 (by first | assumption | rfl | decide) rfl ⟨rfl, by decide, by decide, by decide, rfl, rfl⟩ ?_
            refine tf_go hx ftX10_feed 2 [] 42 [some (.ref 4), some (.int (nI n1)), some (.long y), none, some (.int ((nI k) + 1))] [] (tf_rw (tf_set S 109 1 (nI (A.2.2.1 + (k + 1)))) 110 (tf_fd A.2.1 A.2.2.1 y (k + 1))) rfl ⟨by decide, by decide, rfl⟩ trivial ?_
            rw [show ((nI k) + 1) = nI (k + 1) from (tf_add (a := k) (b := 1) rfl (rfl : (1 : Int32) = nI 1))]
            exact ih (k + 1) (by omega)
        have h0 := loop n1 0 (by omega)
        rw [hid] at h0
        exact h0

