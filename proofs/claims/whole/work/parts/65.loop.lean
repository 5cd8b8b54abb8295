theorem tf_lt5 {N k : Nat} (hN : N ≤ 320) (hk : k ≤ 320) (h : ¬ k + 5 ≤ N) : nI N - 5 < nI k := by
  by_cases q : 5 ≤ N
  · rw [show nI N - 5 = nI (N - 5) from pk_sub (a := N) (b := 5) q]
    exact tf_ltT (a := N - 5) (b := k) rfl rfl (by omega) (by omega) (by omega)
  · have h1 : nI N - 5 < 0 := pk_sneg (a := N) (b := 5) (by decide) (by omega)
    exact Int32.lt_of_lt_of_le h1 (tf_leT (a := 0) (b := k) rfl rfl (by omega) (by omega) (by omega))

set_option maxHeartbeats 4000000 in
theorem law_loop {N : Nat} {z : Nat → Int32} {x : tf_X} (hx : tf_C x cL_law RL 4 9 200 5000 false) (hN : N ≤ 320) (hEnd : ∀ (Y : tf_Sg) (ls : List (Option Value)), tf_K x 200 5000 (tf_GG N) Y 1309 ls [.int 1]) : ∀ (m k : Nat) (Y : tf_Sg) (A : tf_A), N < k + m → k ≤ N → tf_okA A → tf_cs Y A → tf_ms (tf_GG N) Y 125 A → (∀ j, Y 3 j = z j) → tf_K x 200 5000 (tf_GG N) Y 18 [some (.ref 3), some (.ref 4), some (.ref 125), some (.int (nI k))] [] := by
  intro m
  induction m with
  | zero => intro k Y A h1 h2 hA hC hM hz; exact absurd h1 (by omega)
  | succ m ih =>
    intro k Y A h1 h2 hA hC hM hz
    have i0 : k + 5 ≤ N → vp_in (nI k) (tf_ln (tf_GG N) 3) := fun h => tf_in (n := k) (N := N) rfl rfl (by omega) (by omega)
    refine tf_go hx ftL_law 3 [] 21 [some (.ref 3), some (.ref 4), some (.ref 125), some (.int (nI k))] [.int (nI (tf_ln (tf_GG N) 3)), .int (nI k)] Y rfl ⟨by decide, by decide, rfl⟩ ⟨trivial, (Or.inr (by first | assumption | rfl | decide | omega | exact Nat.succ_ne_zero _))⟩ ?_
    rw [show tf_ln (tf_GG N) 3 = N from rfl]
    by_cases e1 : k + 5 ≤ N
    · have i0 := i0 e1
      refine tf_go hx ftL_law 2 [] 23 [some (.ref 3), some (.ref 4), some (.ref 125), some (.int (nI k))] [.int ((nI N) - 5), .int (nI k)] Y rfl ⟨by decide, by decide, rfl⟩ trivial ?_
      rw [show ((nI N) - 5) = nI (N - 5) from (tf_sub (a := N) (b := 5) rfl (rfl : (5 : Int32) = nI 5) (by omega))]
      refine tf_go hx ftL_law 1 [false] 26 [some (.ref 3), some (.ref 4), some (.ref 125), some (.int (nI k))] [] Y rfl ⟨by decide, by decide, rfl⟩ ⟨trivial, (tf_ltF (a := (N - 5)) (b := k) rfl rfl (by omega) (by omega) (by omega))⟩ ?_
      refine tf_go hx ftL_law 2 [] 28 [some (.ref 3), some (.ref 4), some (.ref 125), some (.int (nI k))] [.int (nI k), .ref 3] Y rfl ⟨by decide, by decide, rfl⟩ trivial ?_
      refine tf_go hx ftL_law 1 [] 29 [some (.ref 3), some (.ref 4), some (.ref 125), some (.int (nI k))] [.int (Y 3 (Int32.toNatClampNeg (nI k)))] Y rfl ⟨by decide, by decide, rfl⟩ ⟨trivial, ⟨Or.inr (by first | assumption | rfl | decide | omega | exact Nat.succ_ne_zero _), by first | assumption | exact tf_in (n := k) rfl (by first | assumption | rfl) (by omega) (by decide)⟩⟩ ?_
      rw [show (Y 3 (Int32.toNatClampNeg (nI k))) = (z k) from (by rw [tf_cl_nI (by omega)]; exact hz k)]
      refine tf_go hx ftL_law 2 [] 32 [some (.ref 3), some (.ref 4), some (.ref 125), some (.int (nI k))] [.int ((z k) &&& 31)] Y rfl ⟨by decide, by decide, rfl⟩ trivial ?_
      obtain ⟨v, hv, hve⟩ := and31 (z k)
      rw [hve]
      have ih2 : ∀ (Y : tf_Sg) (A : tf_A), tf_okA A → tf_cs Y A → tf_ms (tf_GG N) Y 125 A → (∀ j, Y 3 j = z j) → tf_K x 200 5000 (tf_GG N) Y 18 [some (.ref 3), some (.ref 4), some (.ref 125), some (.int (nI (k + 5)))] [] := fun Y A a b c d => ih (k + 5) Y A (by omega) (by omega) a b c d
      match v, hv with
      | 0, _ => exact tf_swI hx ftL_law 176 rfl ⟨by decide, by decide, rfl, by decide⟩ (law_c0 hx hN e1 hA hC hM hz ih2)
      | 1, _ => exact tf_swI hx ftL_law 239 rfl ⟨by decide, by decide, rfl, by decide⟩ (law_c1 hx hN e1 hA hC hM hz ih2)
      | 2, _ => exact tf_swI hx ftL_law 262 rfl ⟨by decide, by decide, rfl, by decide⟩ (law_c2 hx hN e1 hA hC hM hz ih2)
      | 3, _ => exact tf_swI hx ftL_law 301 rfl ⟨by decide, by decide, rfl, by decide⟩ (law_c3 hx hN e1 hA hC hM hz ih2)
      | 4, _ => exact tf_swI hx ftL_law 314 rfl ⟨by decide, by decide, rfl, by decide⟩ (law_c4 hx hN e1 hA hC hM hz ih2)
      | 5, _ => exact tf_swI hx ftL_law 347 rfl ⟨by decide, by decide, rfl, by decide⟩ (law_c5 hx hN e1 hA hC hM hz ih2)
      | 6, _ => exact tf_swI hx ftL_law 380 rfl ⟨by decide, by decide, rfl, by decide⟩ (law_c6 hx hN e1 hA hC hM hz ih2)
      | 7, _ => exact tf_swI hx ftL_law 429 rfl ⟨by decide, by decide, rfl, by decide⟩ (law_c7 hx hN e1 hA hC hM hz ih2)
      | 8, _ => exact tf_swI hx ftL_law 472 rfl ⟨by decide, by decide, rfl, by decide⟩ (law_c8 hx hN e1 hA hC hM hz ih2)
      | 9, _ => exact tf_swI hx ftL_law 525 rfl ⟨by decide, by decide, rfl, by decide⟩ (law_c9 hx hN e1 hA hC hM hz ih2)
      | 10, _ => exact tf_swI hx ftL_law 574 rfl ⟨by decide, by decide, rfl, by decide⟩ (law_c10 hx hN e1 hA hC hM hz ih2)
      | 11, _ => exact tf_swI hx ftL_law 607 rfl ⟨by decide, by decide, rfl, by decide⟩ (law_c11 hx hN e1 hA hC hM hz ih2)
      | 12, _ => exact tf_swI hx ftL_law 640 rfl ⟨by decide, by decide, rfl, by decide⟩ (law_c12 hx hN e1 hA hC hM hz ih2)
      | 13, _ => exact tf_swI hx ftL_law 653 rfl ⟨by decide, by decide, rfl, by decide⟩ (law_c13 hx hN e1 hA hC hM hz ih2)
      | 14, _ => exact tf_swI hx ftL_law 712 rfl ⟨by decide, by decide, rfl, by decide⟩ (law_c14 hx hN e1 hA hC hM hz ih2)
      | 15, _ => exact tf_swI hx ftL_law 735 rfl ⟨by decide, by decide, rfl, by decide⟩ (law_c15 hx hN e1 hA hC hM hz ih2)
      | 16, _ => exact tf_swI hx ftL_law 768 rfl ⟨by decide, by decide, rfl, by decide⟩ (law_c16 hx hN e1 hA hC hM hz ih2)
      | 17, _ => exact tf_swI hx ftL_law 811 rfl ⟨by decide, by decide, rfl, by decide⟩ (law_c17 hx hN e1 hA hC hM hz ih2)
      | 18, _ => exact tf_swI hx ftL_law 844 rfl ⟨by decide, by decide, rfl, by decide⟩ (law_c18 hx hN e1 hA hC hM hz ih2)
      | 19, _ => exact tf_swI hx ftL_law 887 rfl ⟨by decide, by decide, rfl, by decide⟩ (law_c19 hx hN e1 hA hC hM hz ih2)
      | 20, _ => exact tf_swI hx ftL_law 930 rfl ⟨by decide, by decide, rfl, by decide⟩ (law_c20 hx hN e1 hA hC hM hz ih2)
      | 21, _ => exact tf_swI hx ftL_law 953 rfl ⟨by decide, by decide, rfl, by decide⟩ (law_c21 hx hN e1 hA hC hM hz ih2)
      | 22, _ => exact tf_swI hx ftL_law 966 rfl ⟨by decide, by decide, rfl, by decide⟩ (law_c22 hx hN e1 hA hC hM hz ih2)
      | 23, _ => exact tf_swI hx ftL_law 999 rfl ⟨by decide, by decide, rfl, by decide⟩ (law_c23 hx hN e1 hA hC hM hz ih2)
      | 24, _ => exact tf_swI hx ftL_law 1022 rfl ⟨by decide, by decide, rfl, by decide⟩ (law_c24 hx hN e1 hA hC hM hz ih2)
      | 25, _ => exact tf_swI hx ftL_law 1081 rfl ⟨by decide, by decide, rfl, by decide⟩ (law_c25 hx hN e1 hA hC hM hz ih2)
      | 26, _ => exact tf_swI hx ftL_law 1114 rfl ⟨by decide, by decide, rfl, by decide⟩ (law_c26 hx hN e1 hA hC hM hz ih2)
      | 27, _ => exact tf_swI hx ftL_law 1157 rfl ⟨by decide, by decide, rfl, by decide⟩ (law_c27 hx hN e1 hA hC hM hz ih2)
      | 28, _ => exact tf_swI hx ftL_law 1210 rfl ⟨by decide, by decide, rfl, by decide⟩ (law_c28 hx hN e1 hA hC hM hz ih2)
      | 29, _ => exact tf_swI hx ftL_law 1253 rfl ⟨by decide, by decide, rfl, by decide⟩ (law_c29 hx hN e1 hA hC hM hz ih2)
      | 30, _ => exact tf_swI hx ftL_law 1266 rfl ⟨by decide, by decide, rfl, by decide⟩ (law_c30 hx hN e1 hA hC hM hz ih2)
      | 31, _ => exact tf_swI hx ftL_law 1279 rfl ⟨by decide, by decide, rfl, by decide⟩ (law_c31 hx hN e1 hA hC hM hz ih2)
      | v + 32, hv => exact absurd hv (by omega)
    · refine tf_go hx ftL_law 2 [] 23 [some (.ref 3), some (.ref 4), some (.ref 125), some (.int (nI k))] [.int ((nI N) - 5), .int (nI k)] Y rfl ⟨by decide, by decide, rfl⟩ trivial ?_
      refine tf_go hx ftL_law 1 [true] 1308 [some (.ref 3), some (.ref 4), some (.ref 125), some (.int (nI k))] [] Y rfl ⟨by decide, by decide, rfl⟩ ⟨trivial, (tf_lt5 hN (by omega) e1)⟩ ?_
      refine tf_go hx ftL_law 1 [] 1309 [some (.ref 3), some (.ref 4), some (.ref 125), some (.int (nI k))] [.int 1] Y rfl ⟨by decide, by decide, rfl⟩ trivial ?_
      exact hEnd Y _

