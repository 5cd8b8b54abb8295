set_option maxHeartbeats 2000000 in
theorem law_c0 {N k : Nat} {z : Nat → Int32} {x : tf_X} {Y : tf_Sg} {A : tf_A} (hx : tf_C x cL_law RL 4 9 200 5000 false) (hN : N ≤ 320) (hk : k + 5 ≤ N) (hA : tf_okA A) (hC : tf_cs Y A) (hM : tf_ms (tf_GG N) Y 125 A) (hz : ∀ j, Y 3 j = z j) (ih : ∀ (Y : tf_Sg) (A : tf_A), tf_okA A → tf_cs Y A → tf_ms (tf_GG N) Y 125 A → (∀ j, Y 3 j = z j) → tf_K x 200 5000 (tf_GG N) Y 18 [some (.ref 3), some (.ref 4), some (.ref 125), some (.int (nI (k + 5)))] []) : tf_K x 200 5000 (tf_GG N) Y 176 [some (.ref 3), some (.ref 4), some (.ref 125), some (.int (nI k))] [] := by
  have i1 : vp_in (nI (k + 1)) (tf_ln (tf_GG N) 3) := tf_in (n := k + 1) (N := N) rfl rfl (by omega) (by omega)
  have i2 : vp_in (nI (k + 2)) (tf_ln (tf_GG N) 3) := tf_in (n := k + 2) (N := N) rfl rfl (by omega) (by omega)
  have i3 : vp_in (nI (k + 3)) (tf_ln (tf_GG N) 3) := tf_in (n := k + 3) (N := N) rfl rfl (by omega) (by omega)
  have i4 : vp_in (nI (k + 4)) (tf_ln (tf_GG N) 3) := tf_in (n := k + 4) (N := N) rfl rfl (by omega) (by omega)
  refine tf_go hx ftL_case0 1 [] 177 [some (.ref 3), some (.ref 4), some (.ref 125), some (.int (nI k))] [.ref 4] Y rfl ⟨by decide, by decide, rfl⟩ trivial ?_
  refine tf_go hx ftL_case0 4 [] 181 [some (.ref 3), some (.ref 4), some (.ref 125), some (.int (nI k))] [.int ((nI k) + 1), .ref 3, .ref 4] Y rfl ⟨by decide, by decide, rfl⟩ trivial ?_
  rw [show ((nI k) + 1) = nI (k + 1) from (tf_add (a := k) (b := 1) rfl (rfl : (1 : Int32) = nI 1))]
  refine tf_go hx ftL_case0 1 [] 182 [some (.ref 3), some (.ref 4), some (.ref 125), some (.int (nI k))] [.int (Y 3 (Int32.toNatClampNeg (nI (k + 1)))), .ref 4] Y rfl ⟨by decide, by decide, rfl⟩ ⟨trivial, ⟨Or.inr (by first | assumption | rfl | decide | omega | exact Nat.succ_ne_zero _), by first | assumption | exact tf_in (n := (k + 1)) rfl (by first | assumption | rfl) (by omega) (by decide)⟩⟩ ?_
  rw [show (Y 3 (Int32.toNatClampNeg (nI (k + 1)))) = (z (k + 1)) from (by rw [tf_cl_nI (by omega)]; exact hz (k + 1))]
  refine tf_go hx ftL_case0 4 [] 186 [some (.ref 3), some (.ref 4), some (.ref 125), some (.int (nI k))] [.int ((nI k) + 2), .ref 3, .int (z (k + 1)), .ref 4] Y rfl ⟨by decide, by decide, rfl⟩ trivial ?_
  rw [show ((nI k) + 2) = nI (k + 2) from (tf_add (a := k) (b := 2) rfl (rfl : (2 : Int32) = nI 2))]
  refine tf_go hx ftL_case0 1 [] 187 [some (.ref 3), some (.ref 4), some (.ref 125), some (.int (nI k))] [.int (Y 3 (Int32.toNatClampNeg (nI (k + 2)))), .int (z (k + 1)), .ref 4] Y rfl ⟨by decide, by decide, rfl⟩ ⟨trivial, ⟨Or.inr (by first | assumption | rfl | decide | omega | exact Nat.succ_ne_zero _), by first | assumption | exact tf_in (n := (k + 2)) rfl (by first | assumption | rfl) (by omega) (by decide)⟩⟩ ?_
  rw [show (Y 3 (Int32.toNatClampNeg (nI (k + 2)))) = (z (k + 2)) from (by rw [tf_cl_nI (by omega)]; exact hz (k + 2))]
  refine tf_go hx ftL_case0 1 [] 188 [some (.ref 3), some (.ref 4), some (.ref 125), some (.int (nI k))] [.long ((z (k + 2))).toInt64, .int (z (k + 1)), .ref 4] Y rfl ⟨by decide, by decide, rfl⟩ trivial ?_
  refine tf_go hx ftL_case0 1 [] 190 [some (.ref 3), some (.ref 4), some (.ref 125), some (.int (nI k))] [.int 32, .long ((z (k + 2))).toInt64, .int (z (k + 1)), .ref 4] Y rfl ⟨by decide, by decide, rfl⟩ trivial ?_
  refine tf_go hx ftL_case0 1 [] 191 [some (.ref 3), some (.ref 4), some (.ref 125), some (.int (nI k))] [.long (((z (k + 2))).toInt64 <<< ((32 : Int32).toInt64 &&& 63)), .int (z (k + 1)), .ref 4] Y rfl ⟨by decide, by decide, rfl⟩ trivial ?_
  refine tf_go hx ftL_case0 4 [] 195 [some (.ref 3), some (.ref 4), some (.ref 125), some (.int (nI k))] [.int ((nI k) + 3), .ref 3, .long (((z (k + 2))).toInt64 <<< ((32 : Int32).toInt64 &&& 63)), .int (z (k + 1)), .ref 4] Y rfl ⟨by decide, by decide, rfl⟩ trivial ?_
  rw [show ((nI k) + 3) = nI (k + 3) from (tf_add (a := k) (b := 3) rfl (rfl : (3 : Int32) = nI 3))]
  refine tf_go hx ftL_case0 1 [] 196 [some (.ref 3), some (.ref 4), some (.ref 125), some (.int (nI k))] [.int (Y 3 (Int32.toNatClampNeg (nI (k + 3)))), .long (((z (k + 2))).toInt64 <<< ((32 : Int32).toInt64 &&& 63)), .int (z (k + 1)), .ref 4] Y rfl ⟨by decide, by decide, rfl⟩ ⟨trivial, ⟨Or.inr (by first | assumption | rfl | decide | omega | exact Nat.succ_ne_zero _), by first | assumption | exact tf_in (n := (k + 3)) rfl (by first | assumption | rfl) (by omega) (by decide)⟩⟩ ?_
  rw [show (Y 3 (Int32.toNatClampNeg (nI (k + 3)))) = (z (k + 3)) from (by rw [tf_cl_nI (by omega)]; exact hz (k + 3))]
  refine tf_go hx ftL_case0 1 [] 197 [some (.ref 3), some (.ref 4), some (.ref 125), some (.int (nI k))] [.long ((z (k + 3))).toInt64, .long (((z (k + 2))).toInt64 <<< ((32 : Int32).toInt64 &&& 63)), .int (z (k + 1)), .ref 4] Y rfl ⟨by decide, by decide, rfl⟩ trivial ?_
  refine tf_go hx ftL_case0 1 [] 200 [some (.ref 3), some (.ref 4), some (.ref 125), some (.int (nI k))] [.long (Int64.ofNat 4294967295), .long ((z (k + 3))).toInt64, .long (((z (k + 2))).toInt64 <<< ((32 : Int32).toInt64 &&& 63)), .int (z (k + 1)), .ref 4] Y rfl ⟨by decide, by decide, rfl⟩ trivial ?_
  refine tf_go hx ftL_case0 1 [] 201 [some (.ref 3), some (.ref 4), some (.ref 125), some (.int (nI k))] [.long (((z (k + 3))).toInt64 &&& (Int64.ofNat 4294967295)), .long (((z (k + 2))).toInt64 <<< ((32 : Int32).toInt64 &&& 63)), .int (z (k + 1)), .ref 4] Y rfl ⟨by decide, by decide, rfl⟩ trivial ?_
  refine tf_go hx ftL_case0 1 [] 202 [some (.ref 3), some (.ref 4), some (.ref 125), some (.int (nI k))] [.long ((((z (k + 2))).toInt64 <<< ((32 : Int32).toInt64 &&& 63)) ||| (((z (k + 3))).toInt64 &&& (Int64.ofNat 4294967295))), .int (z (k + 1)), .ref 4] Y rfl ⟨by decide, by decide, rfl⟩ trivial ?_
  obtain ⟨X1, hF1, hc1, hf1⟩ := c_feed (N := N) (S := Y) (z (k + 1)) (((((z (k + 2))).toInt64 <<< ((32 : Int32).toInt64 &&& 63)) ||| (((z (k + 3))).toInt64 &&& (Int64.ofNat 4294967295)))) hA hC
  refine tf_cV hx ftL_case0 (nx := 205) (As := [.int (z (k + 1)), .long ((((z (k + 2))).toInt64 <<< ((32 : Int32).toInt64 &&& 63)) ||| (((z (k + 3))).toInt64 &&& (Int64.ofNat 4294967295)))]) (rest := []) (st2 := [.int ((s_feed A (z (k + 1)) (((((z (k + 2))).toInt64 <<< ((32 : Int32).toInt64 &&& 63)) ||| (((z (k + 3))).toInt64 &&& (Int64.ofNat 4294967295))))).1)]) (hF1) rfl lL_15 (by first | assumption | rfl | decide) rfl ⟨rfl, by decide, by decide, by decide, rfl, rfl⟩ ?_
  have hz1 : ∀ j, X1 3 j = z j := fun j => by rw [hf1 3 (by omega)]; exact hz j
  obtain ⟨Y1, hG1, hm1, hg1⟩ := p_feed (G := (tf_GG N)) (S := X1) (o := 125) (z (k + 1)) (((((z (k + 2))).toInt64 <<< ((32 : Int32).toInt64 &&& 63)) ||| (((z (k + 3))).toInt64 &&& (Int64.ofNat 4294967295)))) mdG.1 mdG.2 hA (ms_fc hM hf1)
  refine tf_go hx ftL_case0 1 [] 206 [some (.ref 3), some (.ref 4), some (.ref 125), some (.int (nI k))] [.ref 125, .int ((s_feed A (z (k + 1)) (((((z (k + 2))).toInt64 <<< ((32 : Int32).toInt64 &&& 63)) ||| (((z (k + 3))).toInt64 &&& (Int64.ofNat 4294967295))))).1)] X1 rfl ⟨by decide, by decide, rfl⟩ trivial ?_
  refine tf_go hx ftL_case0 4 [] 210 [some (.ref 3), some (.ref 4), some (.ref 125), some (.int (nI k))] [.int ((nI k) + 1), .ref 3, .ref 125, .int ((s_feed A (z (k + 1)) (((((z (k + 2))).toInt64 <<< ((32 : Int32).toInt64 &&& 63)) ||| (((z (k + 3))).toInt64 &&& (Int64.ofNat 4294967295))))).1)] X1 rfl ⟨by decide, by decide, rfl⟩ trivial ?_
  rw [show ((nI k) + 1) = nI (k + 1) from (tf_add (a := k) (b := 1) rfl (rfl : (1 : Int32) = nI 1))]
  refine tf_go hx ftL_case0 1 [] 211 [some (.ref 3), some (.ref 4), some (.ref 125), some (.int (nI k))] [.int (X1 3 (Int32.toNatClampNeg (nI (k + 1)))), .ref 125, .int ((s_feed A (z (k + 1)) (((((z (k + 2))).toInt64 <<< ((32 : Int32).toInt64 &&& 63)) ||| (((z (k + 3))).toInt64 &&& (Int64.ofNat 4294967295))))).1)] X1 rfl ⟨by decide, by decide, rfl⟩ ⟨trivial, ⟨Or.inr (by first | assumption | rfl | decide | omega | exact Nat.succ_ne_zero _), by first | assumption | exact tf_in (n := (k + 1)) rfl (by first | assumption | rfl) (by omega) (by decide)⟩⟩ ?_
  rw [show (X1 3 (Int32.toNatClampNeg (nI (k + 1)))) = (z (k + 1)) from (by rw [tf_cl_nI (by omega)]; exact hz1 (k + 1))]
  refine tf_go hx ftL_case0 4 [] 215 [some (.ref 3), some (.ref 4), some (.ref 125), some (.int (nI k))] [.int ((nI k) + 2), .ref 3, .int (z (k + 1)), .ref 125, .int ((s_feed A (z (k + 1)) (((((z (k + 2))).toInt64 <<< ((32 : Int32).toInt64 &&& 63)) ||| (((z (k + 3))).toInt64 &&& (Int64.ofNat 4294967295))))).1)] X1 rfl ⟨by decide, by decide, rfl⟩ trivial ?_
  rw [show ((nI k) + 2) = nI (k + 2) from (tf_add (a := k) (b := 2) rfl (rfl : (2 : Int32) = nI 2))]
  refine tf_go hx ftL_case0 1 [] 216 [some (.ref 3), some (.ref 4), some (.ref 125), some (.int (nI k))] [.int (X1 3 (Int32.toNatClampNeg (nI (k + 2)))), .int (z (k + 1)), .ref 125, .int ((s_feed A (z (k + 1)) (((((z (k + 2))).toInt64 <<< ((32 : Int32).toInt64 &&& 63)) ||| (((z (k + 3))).toInt64 &&& (Int64.ofNat 4294967295))))).1)] X1 rfl ⟨by decide, by decide, rfl⟩ ⟨trivial, ⟨Or.inr (by first | assumption | rfl | decide | omega | exact Nat.succ_ne_zero _), by first | assumption | exact tf_in (n := (k + 2)) rfl (by first | assumption | rfl) (by omega) (by decide)⟩⟩ ?_
  rw [show (X1 3 (Int32.toNatClampNeg (nI (k + 2)))) = (z (k + 2)) from (by rw [tf_cl_nI (by omega)]; exact hz1 (k + 2))]
  refine tf_go hx ftL_case0 1 [] 217 [some (.ref 3), some (.ref 4), some (.ref 125), some (.int (nI k))] [.long ((z (k + 2))).toInt64, .int (z (k + 1)), .ref 125, .int ((s_feed A (z (k + 1)) (((((z (k + 2))).toInt64 <<< ((32 : Int32).toInt64 &&& 63)) ||| (((z (k + 3))).toInt64 &&& (Int64.ofNat 4294967295))))).1)] X1 rfl ⟨by decide, by decide, rfl⟩ trivial ?_
  refine tf_go hx ftL_case0 1 [] 219 [some (.ref 3), some (.ref 4), some (.ref 125), some (.int (nI k))] [.int 32, .long ((z (k + 2))).toInt64, .int (z (k + 1)), .ref 125, .int ((s_feed A (z (k + 1)) (((((z (k + 2))).toInt64 <<< ((32 : Int32).toInt64 &&& 63)) ||| (((z (k + 3))).toInt64 &&& (Int64.ofNat 4294967295))))).1)] X1 rfl ⟨by decide, by decide, rfl⟩ trivial ?_
  refine tf_go hx ftL_case0 1 [] 220 [some (.ref 3), some (.ref 4), some (.ref 125), some (.int (nI k))] [.long (((z (k + 2))).toInt64 <<< ((32 : Int32).toInt64 &&& 63)), .int (z (k + 1)), .ref 125, .int ((s_feed A (z (k + 1)) (((((z (k + 2))).toInt64 <<< ((32 : Int32).toInt64 &&& 63)) ||| (((z (k + 3))).toInt64 &&& (Int64.ofNat 4294967295))))).1)] X1 rfl ⟨by decide, by decide, rfl⟩ trivial ?_
  refine tf_go hx ftL_case0 4 [] 224 [some (.ref 3), some (.ref 4), some (.ref 125), some (.int (nI k))] [.int ((nI k) + 3), .ref 3, .long (((z (k + 2))).toInt64 <<< ((32 : Int32).toInt64 &&& 63)), .int (z (k + 1)), .ref 125, .int ((s_feed A (z (k + 1)) (((((z (k + 2))).toInt64 <<< ((32 : Int32).toInt64 &&& 63)) ||| (((z (k + 3))).toInt64 &&& (Int64.ofNat 4294967295))))).1)] X1 rfl ⟨by decide, by decide, rfl⟩ trivial ?_
  rw [show ((nI k) + 3) = nI (k + 3) from (tf_add (a := k) (b := 3) rfl (rfl : (3 : Int32) = nI 3))]
  refine tf_go hx ftL_case0 1 [] 225 [some (.ref 3), some (.ref 4), some (.ref 125), some (.int (nI k))] [.int (X1 3 (Int32.toNatClampNeg (nI (k + 3)))), .long (((z (k + 2))).toInt64 <<< ((32 : Int32).toInt64 &&& 63)), .int (z (k + 1)), .ref 125, .int ((s_feed A (z (k + 1)) (((((z (k + 2))).toInt64 <<< ((32 : Int32).toInt64 &&& 63)) ||| (((z (k + 3))).toInt64 &&& (Int64.ofNat 4294967295))))).1)] X1 rfl ⟨by decide, by decide, rfl⟩ ⟨trivial, ⟨Or.inr (by first | assumption | rfl | decide | omega | exact Nat.succ_ne_zero _), by first | assumption | exact tf_in (n := (k + 3)) rfl (by first | assumption | rfl) (by omega) (by decide)⟩⟩ ?_
  rw [show (X1 3 (Int32.toNatClampNeg (nI (k + 3)))) = (z (k + 3)) from (by rw [tf_cl_nI (by omega)]; exact hz1 (k + 3))]
  refine tf_go hx ftL_case0 1 [] 226 [some (.ref 3), some (.ref 4), some (.ref 125), some (.int (nI k))] [.long ((z (k + 3))).toInt64, .long (((z (k + 2))).toInt64 <<< ((32 : Int32).toInt64 &&& 63)), .int (z (k + 1)), .ref 125, .int ((s_feed A (z (k + 1)) (((((z (k + 2))).toInt64 <<< ((32 : Int32).toInt64 &&& 63)) ||| (((z (k + 3))).toInt64 &&& (Int64.ofNat 4294967295))))).1)] X1 rfl ⟨by decide, by decide, rfl⟩ trivial ?_
  refine tf_go hx ftL_case0 1 [] 229 [some (.ref 3), some (.ref 4), some (.ref 125), some (.int (nI k))] [.long (Int64.ofNat 4294967295), .long ((z (k + 3))).toInt64, .long (((z (k + 2))).toInt64 <<< ((32 : Int32).toInt64 &&& 63)), .int (z (k + 1)), .ref 125, .int ((s_feed A (z (k + 1)) (((((z (k + 2))).toInt64 <<< ((32 : Int32).toInt64 &&& 63)) ||| (((z (k + 3))).toInt64 &&& (Int64.ofNat 4294967295))))).1)] X1 rfl ⟨by decide, by decide, rfl⟩ trivial ?_
  refine tf_go hx ftL_case0 1 [] 230 [some (.ref 3), some (.ref 4), some (.ref 125), some (.int (nI k))] [.long (((z (k + 3))).toInt64 &&& (Int64.ofNat 4294967295)), .long (((z (k + 2))).toInt64 <<< ((32 : Int32).toInt64 &&& 63)), .int (z (k + 1)), .ref 125, .int ((s_feed A (z (k + 1)) (((((z (k + 2))).toInt64 <<< ((32 : Int32).toInt64 &&& 63)) ||| (((z (k + 3))).toInt64 &&& (Int64.ofNat 4294967295))))).1)] X1 rfl ⟨by decide, by decide, rfl⟩ trivial ?_
  refine tf_go hx ftL_case0 1 [] 231 [some (.ref 3), some (.ref 4), some (.ref 125), some (.int (nI k))] [.long ((((z (k + 2))).toInt64 <<< ((32 : Int32).toInt64 &&& 63)) ||| (((z (k + 3))).toInt64 &&& (Int64.ofNat 4294967295))), .int (z (k + 1)), .ref 125, .int ((s_feed A (z (k + 1)) (((((z (k + 2))).toInt64 <<< ((32 : Int32).toInt64 &&& 63)) ||| (((z (k + 3))).toInt64 &&& (Int64.ofNat 4294967295))))).1)] X1 rfl ⟨by decide, by decide, rfl⟩ trivial ?_
  refine tf_cV hx ftL_case0 (nx := 234) (As := [.int (z (k + 1)), .long ((((z (k + 2))).toInt64 <<< ((32 : Int32).toInt64 &&& 63)) ||| (((z (k + 3))).toInt64 &&& (Int64.ofNat 4294967295)))]) (rest := [.int ((s_feed A (z (k + 1)) (((((z (k + 2))).toInt64 <<< ((32 : Int32).toInt64 &&& 63)) ||| (((z (k + 3))).toInt64 &&& (Int64.ofNat 4294967295))))).1)]) (st2 := [.int ((s_feed A (z (k + 1)) (((((z (k + 2))).toInt64 <<< ((32 : Int32).toInt64 &&& 63)) ||| (((z (k + 3))).toInt64 &&& (Int64.ofNat 4294967295))))).1), .int ((s_feed A (z (k + 1)) (((((z (k + 2))).toInt64 <<< ((32 : Int32).toInt64 &&& 63)) ||| (((z (k + 3))).toInt64 &&& (Int64.ofNat 4294967295))))).1)]) (hG1) rfl lL_19 (by first | assumption | rfl | decide) rfl ⟨rfl, by decide, by decide, by decide, rfl, rfl⟩ ?_
  refine tf_go hx ftL_case0 1 [true] 1302 [some (.ref 3), some (.ref 4), some (.ref 125), some (.int (nI k))] [] Y1 rfl ⟨by decide, by decide, rfl⟩ ⟨trivial, rfl⟩ ?_
  refine tf_go hx ftL_case0 2 [] 18 [some (.ref 3), some (.ref 4), some (.ref 125), some (.int ((nI k) + 5))] [] Y1 rfl ⟨by decide, by decide, rfl⟩ trivial ?_
  rw [show ((nI k) + 5) = nI (k + 5) from (tf_add (a := k) (b := 5) rfl (rfl : (5 : Int32) = nI 5))]
  have hz2 : ∀ j, Y1 3 j = z j := fun j => by rw [fm_le hg1 3 (by omega)]; exact hz1 j
  exact ih Y1 (s_feed A (z (k + 1)) (((((z (k + 2))).toInt64 <<< ((32 : Int32).toInt64 &&& 63)) ||| (((z (k + 3))).toInt64 &&& (Int64.ofNat 4294967295))))).2 (ok_feed (z (k + 1)) (((((z (k + 2))).toInt64 <<< ((32 : Int32).toInt64 &&& 63)) ||| (((z (k + 3))).toInt64 &&& (Int64.ofNat 4294967295)))) hA) (cs_fm (ok_feed (z (k + 1)) (((((z (k + 2))).toInt64 <<< ((32 : Int32).toInt64 &&& 63)) ||| (((z (k + 3))).toInt64 &&& (Int64.ofNat 4294967295)))) hA) hc1 hg1) hm1 hz2

set_option maxHeartbeats 2000000 in
theorem law_c1 {N k : Nat} {z : Nat → Int32} {x : tf_X} {Y : tf_Sg} {A : tf_A} (hx : tf_C x cL_law RL 4 9 200 5000 false) (hN : N ≤ 320) (hk : k + 5 ≤ N) (hA : tf_okA A) (hC : tf_cs Y A) (hM : tf_ms (tf_GG N) Y 125 A) (hz : ∀ j, Y 3 j = z j) (ih : ∀ (Y : tf_Sg) (A : tf_A), tf_okA A → tf_cs Y A → tf_ms (tf_GG N) Y 125 A → (∀ j, Y 3 j = z j) → tf_K x 200 5000 (tf_GG N) Y 18 [some (.ref 3), some (.ref 4), some (.ref 125), some (.int (nI (k + 5)))] []) : tf_K x 200 5000 (tf_GG N) Y 239 [some (.ref 3), some (.ref 4), some (.ref 125), some (.int (nI k))] [] := by
  have i1 : vp_in (nI (k + 1)) (tf_ln (tf_GG N) 3) := tf_in (n := k + 1) (N := N) rfl rfl (by omega) (by omega)
  have i2 : vp_in (nI (k + 2)) (tf_ln (tf_GG N) 3) := tf_in (n := k + 2) (N := N) rfl rfl (by omega) (by omega)
  have i3 : vp_in (nI (k + 3)) (tf_ln (tf_GG N) 3) := tf_in (n := k + 3) (N := N) rfl rfl (by omega) (by omega)
  have i4 : vp_in (nI (k + 4)) (tf_ln (tf_GG N) 3) := tf_in (n := k + 4) (N := N) rfl rfl (by omega) (by omega)
  refine tf_go hx ftL_case1 1 [] 240 [some (.ref 3), some (.ref 4), some (.ref 125), some (.int (nI k))] [.ref 4] Y rfl ⟨by decide, by decide, rfl⟩ trivial ?_
  refine tf_go hx ftL_case1 4 [] 244 [some (.ref 3), some (.ref 4), some (.ref 125), some (.int (nI k))] [.int ((nI k) + 1), .ref 3, .ref 4] Y rfl ⟨by decide, by decide, rfl⟩ trivial ?_
  rw [show ((nI k) + 1) = nI (k + 1) from (tf_add (a := k) (b := 1) rfl (rfl : (1 : Int32) = nI 1))]
  refine tf_go hx ftL_case1 1 [] 245 [some (.ref 3), some (.ref 4), some (.ref 125), some (.int (nI k))] [.int (Y 3 (Int32.toNatClampNeg (nI (k + 1)))), .ref 4] Y rfl ⟨by decide, by decide, rfl⟩ ⟨trivial, ⟨Or.inr (by first | assumption | rfl | decide | omega | exact Nat.succ_ne_zero _), by first | assumption | exact tf_in (n := (k + 1)) rfl (by first | assumption | rfl) (by omega) (by decide)⟩⟩ ?_
  rw [show (Y 3 (Int32.toNatClampNeg (nI (k + 1)))) = (z (k + 1)) from (by rw [tf_cl_nI (by omega)]; exact hz (k + 1))]
  obtain ⟨X1, hF1, hc1, hf1⟩ := c_board (N := N) (S := Y) (z (k + 1)) hA hC
  refine tf_cV hx ftL_case1 (nx := 248) (As := [.int (z (k + 1))]) (rest := []) (st2 := [.int ((s_board A (z (k + 1))).1)]) (hF1) rfl lL_20 (by first | assumption | rfl | decide) rfl ⟨rfl, by decide, by decide, by decide, rfl, rfl⟩ ?_
  have hz1 : ∀ j, X1 3 j = z j := fun j => by rw [hf1 3 (by omega)]; exact hz j
  obtain ⟨Y1, hG1, hm1, hg1⟩ := p_board (G := (tf_GG N)) (S := X1) (o := 125) (z (k + 1)) mdG.1 mdG.2 hA (ms_fc hM hf1)
  refine tf_go hx ftL_case1 1 [] 249 [some (.ref 3), some (.ref 4), some (.ref 125), some (.int (nI k))] [.ref 125, .int ((s_board A (z (k + 1))).1)] X1 rfl ⟨by decide, by decide, rfl⟩ trivial ?_
  refine tf_go hx ftL_case1 4 [] 253 [some (.ref 3), some (.ref 4), some (.ref 125), some (.int (nI k))] [.int ((nI k) + 1), .ref 3, .ref 125, .int ((s_board A (z (k + 1))).1)] X1 rfl ⟨by decide, by decide, rfl⟩ trivial ?_
  rw [show ((nI k) + 1) = nI (k + 1) from (tf_add (a := k) (b := 1) rfl (rfl : (1 : Int32) = nI 1))]
  refine tf_go hx ftL_case1 1 [] 254 [some (.ref 3), some (.ref 4), some (.ref 125), some (.int (nI k))] [.int (X1 3 (Int32.toNatClampNeg (nI (k + 1)))), .ref 125, .int ((s_board A (z (k + 1))).1)] X1 rfl ⟨by decide, by decide, rfl⟩ ⟨trivial, ⟨Or.inr (by first | assumption | rfl | decide | omega | exact Nat.succ_ne_zero _), by first | assumption | exact tf_in (n := (k + 1)) rfl (by first | assumption | rfl) (by omega) (by decide)⟩⟩ ?_
  rw [show (X1 3 (Int32.toNatClampNeg (nI (k + 1)))) = (z (k + 1)) from (by rw [tf_cl_nI (by omega)]; exact hz1 (k + 1))]
  refine tf_cV hx ftL_case1 (nx := 257) (As := [.int (z (k + 1))]) (rest := [.int ((s_board A (z (k + 1))).1)]) (st2 := [.int ((s_board A (z (k + 1))).1), .int ((s_board A (z (k + 1))).1)]) (hG1) rfl lL_24 (by first | assumption | rfl | decide) rfl ⟨rfl, by decide, by decide, by decide, rfl, rfl⟩ ?_
  refine tf_go hx ftL_case1 1 [true] 1302 [some (.ref 3), some (.ref 4), some (.ref 125), some (.int (nI k))] [] Y1 rfl ⟨by decide, by decide, rfl⟩ ⟨trivial, rfl⟩ ?_
  refine tf_go hx ftL_case1 2 [] 18 [some (.ref 3), some (.ref 4), some (.ref 125), some (.int ((nI k) + 5))] [] Y1 rfl ⟨by decide, by decide, rfl⟩ trivial ?_
  rw [show ((nI k) + 5) = nI (k + 5) from (tf_add (a := k) (b := 5) rfl (rfl : (5 : Int32) = nI 5))]
  have hz2 : ∀ j, Y1 3 j = z j := fun j => by rw [fm_le hg1 3 (by omega)]; exact hz1 j
  exact ih Y1 (s_board A (z (k + 1))).2 (ok_board (z (k + 1)) hA) (cs_fm (ok_board (z (k + 1)) hA) hc1 hg1) hm1 hz2

set_option maxHeartbeats 2000000 in
theorem law_c2 {N k : Nat} {z : Nat → Int32} {x : tf_X} {Y : tf_Sg} {A : tf_A} (hx : tf_C x cL_law RL 4 9 200 5000 false) (hN : N ≤ 320) (hk : k + 5 ≤ N) (hA : tf_okA A) (hC : tf_cs Y A) (hM : tf_ms (tf_GG N) Y 125 A) (hz : ∀ j, Y 3 j = z j) (ih : ∀ (Y : tf_Sg) (A : tf_A), tf_okA A → tf_cs Y A → tf_ms (tf_GG N) Y 125 A → (∀ j, Y 3 j = z j) → tf_K x 200 5000 (tf_GG N) Y 18 [some (.ref 3), some (.ref 4), some (.ref 125), some (.int (nI (k + 5)))] []) : tf_K x 200 5000 (tf_GG N) Y 262 [some (.ref 3), some (.ref 4), some (.ref 125), some (.int (nI k))] [] := by
  have i1 : vp_in (nI (k + 1)) (tf_ln (tf_GG N) 3) := tf_in (n := k + 1) (N := N) rfl rfl (by omega) (by omega)
  have i2 : vp_in (nI (k + 2)) (tf_ln (tf_GG N) 3) := tf_in (n := k + 2) (N := N) rfl rfl (by omega) (by omega)
  have i3 : vp_in (nI (k + 3)) (tf_ln (tf_GG N) 3) := tf_in (n := k + 3) (N := N) rfl rfl (by omega) (by omega)
  have i4 : vp_in (nI (k + 4)) (tf_ln (tf_GG N) 3) := tf_in (n := k + 4) (N := N) rfl rfl (by omega) (by omega)
  by_cases zb : z (k + 1) = 0
  · refine tf_go hx ftL_case2 1 [] 263 [some (.ref 3), some (.ref 4), some (.ref 125), some (.int (nI k))] [.ref 4] Y rfl ⟨by decide, by decide, rfl⟩ trivial ?_
    refine tf_go hx ftL_case2 4 [] 267 [some (.ref 3), some (.ref 4), some (.ref 125), some (.int (nI k))] [.int ((nI k) + 1), .ref 3, .ref 4] Y rfl ⟨by decide, by decide, rfl⟩ trivial ?_
    rw [show ((nI k) + 1) = nI (k + 1) from (tf_add (a := k) (b := 1) rfl (rfl : (1 : Int32) = nI 1))]
    refine tf_go hx ftL_case2 1 [] 268 [some (.ref 3), some (.ref 4), some (.ref 125), some (.int (nI k))] [.int (Y 3 (Int32.toNatClampNeg (nI (k + 1)))), .ref 4] Y rfl ⟨by decide, by decide, rfl⟩ ⟨trivial, ⟨Or.inr (by first | assumption | rfl | decide | omega | exact Nat.succ_ne_zero _), by first | assumption | exact tf_in (n := (k + 1)) rfl (by first | assumption | rfl) (by omega) (by decide)⟩⟩ ?_
    rw [show (Y 3 (Int32.toNatClampNeg (nI (k + 1)))) = (z (k + 1)) from (by rw [tf_cl_nI (by omega)]; exact hz (k + 1))]
    refine tf_go hx ftL_case2 1 [true] 275 [some (.ref 3), some (.ref 4), some (.ref 125), some (.int (nI k))] [.ref 4] Y rfl ⟨by decide, by decide, rfl⟩ ⟨trivial, zb⟩ ?_
    refine tf_go hx ftL_case2 1 [] 276 [some (.ref 3), some (.ref 4), some (.ref 125), some (.int (nI k))] [.int 0, .ref 4] Y rfl ⟨by decide, by decide, rfl⟩ trivial ?_
    obtain ⟨X1, hF1, hc1, hf1⟩ := c_text (N := N) (S := Y) 0 hA hC (by decide)
    refine tf_cV hx ftL_case2 (nx := 279) (As := [.int 0]) (rest := []) (st2 := [.int ((s_text A 0).1)]) (hF1) rfl lL_25 (by first | assumption | rfl | decide) rfl ⟨rfl, by decide, by decide, by decide, rfl, rfl⟩ ?_
    have hz1 : ∀ j, X1 3 j = z j := fun j => by rw [hf1 3 (by omega)]; exact hz j
    obtain ⟨Y1, hG1, hm1, hg1⟩ := p_text (G := (tf_GG N)) (S := X1) (o := 125) 0 (by decide) mdG.1 mdG.2 hA (ms_fc hM hf1)
    refine tf_go hx ftL_case2 1 [] 280 [some (.ref 3), some (.ref 4), some (.ref 125), some (.int (nI k))] [.ref 125, .int ((s_text A 0).1)] X1 rfl ⟨by decide, by decide, rfl⟩ trivial ?_
    refine tf_go hx ftL_case2 4 [] 284 [some (.ref 3), some (.ref 4), some (.ref 125), some (.int (nI k))] [.int ((nI k) + 1), .ref 3, .ref 125, .int ((s_text A 0).1)] X1 rfl ⟨by decide, by decide, rfl⟩ trivial ?_
    rw [show ((nI k) + 1) = nI (k + 1) from (tf_add (a := k) (b := 1) rfl (rfl : (1 : Int32) = nI 1))]
    refine tf_go hx ftL_case2 1 [] 285 [some (.ref 3), some (.ref 4), some (.ref 125), some (.int (nI k))] [.int (X1 3 (Int32.toNatClampNeg (nI (k + 1)))), .ref 125, .int ((s_text A 0).1)] X1 rfl ⟨by decide, by decide, rfl⟩ ⟨trivial, ⟨Or.inr (by first | assumption | rfl | decide | omega | exact Nat.succ_ne_zero _), by first | assumption | exact tf_in (n := (k + 1)) rfl (by first | assumption | rfl) (by omega) (by decide)⟩⟩ ?_
    rw [show (X1 3 (Int32.toNatClampNeg (nI (k + 1)))) = (z (k + 1)) from (by rw [tf_cl_nI (by omega)]; exact hz1 (k + 1))]
    refine tf_go hx ftL_case2 1 [true] 292 [some (.ref 3), some (.ref 4), some (.ref 125), some (.int (nI k))] [.ref 125, .int ((s_text A 0).1)] X1 rfl ⟨by decide, by decide, rfl⟩ ⟨trivial, zb⟩ ?_
    refine tf_go hx ftL_case2 1 [] 293 [some (.ref 3), some (.ref 4), some (.ref 125), some (.int (nI k))] [.int 0, .ref 125, .int ((s_text A 0).1)] X1 rfl ⟨by decide, by decide, rfl⟩ trivial ?_
    refine tf_cV hx ftL_case2 (nx := 296) (As := [.int 0]) (rest := [.int ((s_text A 0).1)]) (st2 := [.int ((s_text A 0).1), .int ((s_text A 0).1)]) (hG1) rfl lL_29 (by first | assumption | rfl | decide) rfl ⟨rfl, by decide, by decide, by decide, rfl, rfl⟩ ?_
    refine tf_go hx ftL_case2 1 [true] 1302 [some (.ref 3), some (.ref 4), some (.ref 125), some (.int (nI k))] [] Y1 rfl ⟨by decide, by decide, rfl⟩ ⟨trivial, rfl⟩ ?_
    refine tf_go hx ftL_case2 2 [] 18 [some (.ref 3), some (.ref 4), some (.ref 125), some (.int ((nI k) + 5))] [] Y1 rfl ⟨by decide, by decide, rfl⟩ trivial ?_
    rw [show ((nI k) + 5) = nI (k + 5) from (tf_add (a := k) (b := 5) rfl (rfl : (5 : Int32) = nI 5))]
    have hz2 : ∀ j, Y1 3 j = z j := fun j => by rw [fm_le hg1 3 (by omega)]; exact hz1 j
    exact ih Y1 (s_text A 0).2 (ok_text 0 hA) (cs_fm (ok_text 0 hA) hc1 hg1) hm1 hz2
  · refine tf_go hx ftL_case2 1 [] 263 [some (.ref 3), some (.ref 4), some (.ref 125), some (.int (nI k))] [.ref 4] Y rfl ⟨by decide, by decide, rfl⟩ trivial ?_
    refine tf_go hx ftL_case2 4 [] 267 [some (.ref 3), some (.ref 4), some (.ref 125), some (.int (nI k))] [.int ((nI k) + 1), .ref 3, .ref 4] Y rfl ⟨by decide, by decide, rfl⟩ trivial ?_
    rw [show ((nI k) + 1) = nI (k + 1) from (tf_add (a := k) (b := 1) rfl (rfl : (1 : Int32) = nI 1))]
    refine tf_go hx ftL_case2 1 [] 268 [some (.ref 3), some (.ref 4), some (.ref 125), some (.int (nI k))] [.int (Y 3 (Int32.toNatClampNeg (nI (k + 1)))), .ref 4] Y rfl ⟨by decide, by decide, rfl⟩ ⟨trivial, ⟨Or.inr (by first | assumption | rfl | decide | omega | exact Nat.succ_ne_zero _), by first | assumption | exact tf_in (n := (k + 1)) rfl (by first | assumption | rfl) (by omega) (by decide)⟩⟩ ?_
    rw [show (Y 3 (Int32.toNatClampNeg (nI (k + 1)))) = (z (k + 1)) from (by rw [tf_cl_nI (by omega)]; exact hz (k + 1))]
    refine tf_go hx ftL_case2 1 [false] 271 [some (.ref 3), some (.ref 4), some (.ref 125), some (.int (nI k))] [.ref 4] Y rfl ⟨by decide, by decide, rfl⟩ ⟨trivial, zb⟩ ?_
    refine tf_go hx ftL_case2 2 [] 276 [some (.ref 3), some (.ref 4), some (.ref 125), some (.int (nI k))] [.int 1, .ref 4] Y rfl ⟨by decide, by decide, rfl⟩ trivial ?_
    obtain ⟨X1, hF1, hc1, hf1⟩ := c_text (N := N) (S := Y) 1 hA hC (by decide)
    refine tf_cV hx ftL_case2 (nx := 279) (As := [.int 1]) (rest := []) (st2 := [.int ((s_text A 1).1)]) (hF1) rfl lL_25 (by first | assumption | rfl | decide) rfl ⟨rfl, by decide, by decide, by decide, rfl, rfl⟩ ?_
    have hz1 : ∀ j, X1 3 j = z j := fun j => by rw [hf1 3 (by omega)]; exact hz j
    obtain ⟨Y1, hG1, hm1, hg1⟩ := p_text (G := (tf_GG N)) (S := X1) (o := 125) 1 (by decide) mdG.1 mdG.2 hA (ms_fc hM hf1)
    refine tf_go hx ftL_case2 1 [] 280 [some (.ref 3), some (.ref 4), some (.ref 125), some (.int (nI k))] [.ref 125, .int ((s_text A 1).1)] X1 rfl ⟨by decide, by decide, rfl⟩ trivial ?_
    refine tf_go hx ftL_case2 4 [] 284 [some (.ref 3), some (.ref 4), some (.ref 125), some (.int (nI k))] [.int ((nI k) + 1), .ref 3, .ref 125, .int ((s_text A 1).1)] X1 rfl ⟨by decide, by decide, rfl⟩ trivial ?_
    rw [show ((nI k) + 1) = nI (k + 1) from (tf_add (a := k) (b := 1) rfl (rfl : (1 : Int32) = nI 1))]
    refine tf_go hx ftL_case2 1 [] 285 [some (.ref 3), some (.ref 4), some (.ref 125), some (.int (nI k))] [.int (X1 3 (Int32.toNatClampNeg (nI (k + 1)))), .ref 125, .int ((s_text A 1).1)] X1 rfl ⟨by decide, by decide, rfl⟩ ⟨trivial, ⟨Or.inr (by first | assumption | rfl | decide | omega | exact Nat.succ_ne_zero _), by first | assumption | exact tf_in (n := (k + 1)) rfl (by first | assumption | rfl) (by omega) (by decide)⟩⟩ ?_
    rw [show (X1 3 (Int32.toNatClampNeg (nI (k + 1)))) = (z (k + 1)) from (by rw [tf_cl_nI (by omega)]; exact hz1 (k + 1))]
    refine tf_go hx ftL_case2 1 [false] 288 [some (.ref 3), some (.ref 4), some (.ref 125), some (.int (nI k))] [.ref 125, .int ((s_text A 1).1)] X1 rfl ⟨by decide, by decide, rfl⟩ ⟨trivial, zb⟩ ?_
    refine tf_go hx ftL_case2 2 [] 293 [some (.ref 3), some (.ref 4), some (.ref 125), some (.int (nI k))] [.int 1, .ref 125, .int ((s_text A 1).1)] X1 rfl ⟨by decide, by decide, rfl⟩ trivial ?_
    refine tf_cV hx ftL_case2 (nx := 296) (As := [.int 1]) (rest := [.int ((s_text A 1).1)]) (st2 := [.int ((s_text A 1).1), .int ((s_text A 1).1)]) (hG1) rfl lL_29 (by first | assumption | rfl | decide) rfl ⟨rfl, by decide, by decide, by decide, rfl, rfl⟩ ?_
    refine tf_go hx ftL_case2 1 [true] 1302 [some (.ref 3), some (.ref 4), some (.ref 125), some (.int (nI k))] [] Y1 rfl ⟨by decide, by decide, rfl⟩ ⟨trivial, rfl⟩ ?_
    refine tf_go hx ftL_case2 2 [] 18 [some (.ref 3), some (.ref 4), some (.ref 125), some (.int ((nI k) + 5))] [] Y1 rfl ⟨by decide, by decide, rfl⟩ trivial ?_
    rw [show ((nI k) + 5) = nI (k + 5) from (tf_add (a := k) (b := 5) rfl (rfl : (5 : Int32) = nI 5))]
    have hz2 : ∀ j, Y1 3 j = z j := fun j => by rw [fm_le hg1 3 (by omega)]; exact hz1 j
    exact ih Y1 (s_text A 1).2 (ok_text 1 hA) (cs_fm (ok_text 1 hA) hc1 hg1) hm1 hz2

set_option maxHeartbeats 2000000 in
theorem law_c3 {N k : Nat} {z : Nat → Int32} {x : tf_X} {Y : tf_Sg} {A : tf_A} (hx : tf_C x cL_law RL 4 9 200 5000 false) (hN : N ≤ 320) (hk : k + 5 ≤ N) (hA : tf_okA A) (hC : tf_cs Y A) (hM : tf_ms (tf_GG N) Y 125 A) (hz : ∀ j, Y 3 j = z j) (ih : ∀ (Y : tf_Sg) (A : tf_A), tf_okA A → tf_cs Y A → tf_ms (tf_GG N) Y 125 A → (∀ j, Y 3 j = z j) → tf_K x 200 5000 (tf_GG N) Y 18 [some (.ref 3), some (.ref 4), some (.ref 125), some (.int (nI (k + 5)))] []) : tf_K x 200 5000 (tf_GG N) Y 301 [some (.ref 3), some (.ref 4), some (.ref 125), some (.int (nI k))] [] := by
  have i1 : vp_in (nI (k + 1)) (tf_ln (tf_GG N) 3) := tf_in (n := k + 1) (N := N) rfl rfl (by omega) (by omega)
  have i2 : vp_in (nI (k + 2)) (tf_ln (tf_GG N) 3) := tf_in (n := k + 2) (N := N) rfl rfl (by omega) (by omega)
  have i3 : vp_in (nI (k + 3)) (tf_ln (tf_GG N) 3) := tf_in (n := k + 3) (N := N) rfl rfl (by omega) (by omega)
  have i4 : vp_in (nI (k + 4)) (tf_ln (tf_GG N) 3) := tf_in (n := k + 4) (N := N) rfl rfl (by omega) (by omega)
  refine tf_go hx ftL_case3 1 [] 302 [some (.ref 3), some (.ref 4), some (.ref 125), some (.int (nI k))] [.ref 4] Y rfl ⟨by decide, by decide, rfl⟩ trivial ?_
  obtain ⟨X1, hF1, hc1, hf1⟩ := c_word (N := N) (S := Y)  hA hC
  refine tf_cV hx ftL_case3 (nx := 305) (As := []) (rest := []) (st2 := [.int ((s_word A).1)]) (hF1) rfl lL_30 (by first | assumption | rfl | decide) rfl ⟨rfl, by decide, by decide, by decide, rfl, rfl⟩ ?_
  have hz1 : ∀ j, X1 3 j = z j := fun j => by rw [hf1 3 (by omega)]; exact hz j
  obtain ⟨Y1, hG1, hm1, hg1⟩ := p_word (G := (tf_GG N)) (S := X1) (o := 125)  mdG.1 mdG.2 hA (ms_fc hM hf1)
  refine tf_go hx ftL_case3 1 [] 306 [some (.ref 3), some (.ref 4), some (.ref 125), some (.int (nI k))] [.ref 125, .int ((s_word A).1)] X1 rfl ⟨by decide, by decide, rfl⟩ trivial ?_
  refine tf_cV hx ftL_case3 (nx := 309) (As := []) (rest := [.int ((s_word A).1)]) (st2 := [.int ((s_word A).1), .int ((s_word A).1)]) (hG1) rfl lL_34 (by first | assumption | rfl | decide) rfl ⟨rfl, by decide, by decide, by decide, rfl, rfl⟩ ?_
  refine tf_go hx ftL_case3 1 [true] 1302 [some (.ref 3), some (.ref 4), some (.ref 125), some (.int (nI k))] [] Y1 rfl ⟨by decide, by decide, rfl⟩ ⟨trivial, rfl⟩ ?_
  refine tf_go hx ftL_case3 2 [] 18 [some (.ref 3), some (.ref 4), some (.ref 125), some (.int ((nI k) + 5))] [] Y1 rfl ⟨by decide, by decide, rfl⟩ trivial ?_
  rw [show ((nI k) + 5) = nI (k + 5) from (tf_add (a := k) (b := 5) rfl (rfl : (5 : Int32) = nI 5))]
  have hz2 : ∀ j, Y1 3 j = z j := fun j => by rw [fm_le hg1 3 (by omega)]; exact hz1 j
  exact ih Y1 (s_word A).2 (ok_word hA) (cs_fm (ok_word hA) hc1 hg1) hm1 hz2

set_option maxHeartbeats 2000000 in
theorem law_c4 {N k : Nat} {z : Nat → Int32} {x : tf_X} {Y : tf_Sg} {A : tf_A} (hx : tf_C x cL_law RL 4 9 200 5000 false) (hN : N ≤ 320) (hk : k + 5 ≤ N) (hA : tf_okA A) (hC : tf_cs Y A) (hM : tf_ms (tf_GG N) Y 125 A) (hz : ∀ j, Y 3 j = z j) (ih : ∀ (Y : tf_Sg) (A : tf_A), tf_okA A → tf_cs Y A → tf_ms (tf_GG N) Y 125 A → (∀ j, Y 3 j = z j) → tf_K x 200 5000 (tf_GG N) Y 18 [some (.ref 3), some (.ref 4), some (.ref 125), some (.int (nI (k + 5)))] []) : tf_K x 200 5000 (tf_GG N) Y 314 [some (.ref 3), some (.ref 4), some (.ref 125), some (.int (nI k))] [] := by
  have i1 : vp_in (nI (k + 1)) (tf_ln (tf_GG N) 3) := tf_in (n := k + 1) (N := N) rfl rfl (by omega) (by omega)
  have i2 : vp_in (nI (k + 2)) (tf_ln (tf_GG N) 3) := tf_in (n := k + 2) (N := N) rfl rfl (by omega) (by omega)
  have i3 : vp_in (nI (k + 3)) (tf_ln (tf_GG N) 3) := tf_in (n := k + 3) (N := N) rfl rfl (by omega) (by omega)
  have i4 : vp_in (nI (k + 4)) (tf_ln (tf_GG N) 3) := tf_in (n := k + 4) (N := N) rfl rfl (by omega) (by omega)
  refine tf_go hx ftL_case4 1 [] 315 [some (.ref 3), some (.ref 4), some (.ref 125), some (.int (nI k))] [.ref 4] Y rfl ⟨by decide, by decide, rfl⟩ trivial ?_
  refine tf_go hx ftL_case4 4 [] 319 [some (.ref 3), some (.ref 4), some (.ref 125), some (.int (nI k))] [.int ((nI k) + 1), .ref 3, .ref 4] Y rfl ⟨by decide, by decide, rfl⟩ trivial ?_
  rw [show ((nI k) + 1) = nI (k + 1) from (tf_add (a := k) (b := 1) rfl (rfl : (1 : Int32) = nI 1))]
  refine tf_go hx ftL_case4 1 [] 320 [some (.ref 3), some (.ref 4), some (.ref 125), some (.int (nI k))] [.int (Y 3 (Int32.toNatClampNeg (nI (k + 1)))), .ref 4] Y rfl ⟨by decide, by decide, rfl⟩ ⟨trivial, ⟨Or.inr (by first | assumption | rfl | decide | omega | exact Nat.succ_ne_zero _), by first | assumption | exact tf_in (n := (k + 1)) rfl (by first | assumption | rfl) (by omega) (by decide)⟩⟩ ?_
  rw [show (Y 3 (Int32.toNatClampNeg (nI (k + 1)))) = (z (k + 1)) from (by rw [tf_cl_nI (by omega)]; exact hz (k + 1))]
  refine tf_go hx ftL_case4 4 [] 324 [some (.ref 3), some (.ref 4), some (.ref 125), some (.int (nI k))] [.int ((nI k) + 2), .ref 3, .int (z (k + 1)), .ref 4] Y rfl ⟨by decide, by decide, rfl⟩ trivial ?_
  rw [show ((nI k) + 2) = nI (k + 2) from (tf_add (a := k) (b := 2) rfl (rfl : (2 : Int32) = nI 2))]
  refine tf_go hx ftL_case4 1 [] 325 [some (.ref 3), some (.ref 4), some (.ref 125), some (.int (nI k))] [.int (Y 3 (Int32.toNatClampNeg (nI (k + 2)))), .int (z (k + 1)), .ref 4] Y rfl ⟨by decide, by decide, rfl⟩ ⟨trivial, ⟨Or.inr (by first | assumption | rfl | decide | omega | exact Nat.succ_ne_zero _), by first | assumption | exact tf_in (n := (k + 2)) rfl (by first | assumption | rfl) (by omega) (by decide)⟩⟩ ?_
  rw [show (Y 3 (Int32.toNatClampNeg (nI (k + 2)))) = (z (k + 2)) from (by rw [tf_cl_nI (by omega)]; exact hz (k + 2))]
  obtain ⟨X1, hF1, hc1, hf1⟩ := c_keyOf (N := N) (S := Y) (z (k + 1)) (z (k + 2)) hA hC
  refine tf_cV hx ftL_case4 (nx := 328) (As := [.int (z (k + 1)), .int (z (k + 2))]) (rest := []) (st2 := [.int ((s_keyOf A (z (k + 1)) (z (k + 2))).1)]) (hF1) rfl lL_35 (by first | assumption | rfl | decide) rfl ⟨rfl, by decide, by decide, by decide, rfl, rfl⟩ ?_
  have hz1 : ∀ j, X1 3 j = z j := fun j => by rw [hf1 3 (by omega)]; exact hz j
  obtain ⟨Y1, hG1, hm1, hg1⟩ := p_keyOf (G := (tf_GG N)) (S := X1) (o := 125) (z (k + 1)) (z (k + 2)) mdG.1 mdG.2 hA (ms_fc hM hf1)
  refine tf_go hx ftL_case4 1 [] 329 [some (.ref 3), some (.ref 4), some (.ref 125), some (.int (nI k))] [.ref 125, .int ((s_keyOf A (z (k + 1)) (z (k + 2))).1)] X1 rfl ⟨by decide, by decide, rfl⟩ trivial ?_
  refine tf_go hx ftL_case4 4 [] 333 [some (.ref 3), some (.ref 4), some (.ref 125), some (.int (nI k))] [.int ((nI k) + 1), .ref 3, .ref 125, .int ((s_keyOf A (z (k + 1)) (z (k + 2))).1)] X1 rfl ⟨by decide, by decide, rfl⟩ trivial ?_
  rw [show ((nI k) + 1) = nI (k + 1) from (tf_add (a := k) (b := 1) rfl (rfl : (1 : Int32) = nI 1))]
  refine tf_go hx ftL_case4 1 [] 334 [some (.ref 3), some (.ref 4), some (.ref 125), some (.int (nI k))] [.int (X1 3 (Int32.toNatClampNeg (nI (k + 1)))), .ref 125, .int ((s_keyOf A (z (k + 1)) (z (k + 2))).1)] X1 rfl ⟨by decide, by decide, rfl⟩ ⟨trivial, ⟨Or.inr (by first | assumption | rfl | decide | omega | exact Nat.succ_ne_zero _), by first | assumption | exact tf_in (n := (k + 1)) rfl (by first | assumption | rfl) (by omega) (by decide)⟩⟩ ?_
  rw [show (X1 3 (Int32.toNatClampNeg (nI (k + 1)))) = (z (k + 1)) from (by rw [tf_cl_nI (by omega)]; exact hz1 (k + 1))]
  refine tf_go hx ftL_case4 4 [] 338 [some (.ref 3), some (.ref 4), some (.ref 125), some (.int (nI k))] [.int ((nI k) + 2), .ref 3, .int (z (k + 1)), .ref 125, .int ((s_keyOf A (z (k + 1)) (z (k + 2))).1)] X1 rfl ⟨by decide, by decide, rfl⟩ trivial ?_
  rw [show ((nI k) + 2) = nI (k + 2) from (tf_add (a := k) (b := 2) rfl (rfl : (2 : Int32) = nI 2))]
  refine tf_go hx ftL_case4 1 [] 339 [some (.ref 3), some (.ref 4), some (.ref 125), some (.int (nI k))] [.int (X1 3 (Int32.toNatClampNeg (nI (k + 2)))), .int (z (k + 1)), .ref 125, .int ((s_keyOf A (z (k + 1)) (z (k + 2))).1)] X1 rfl ⟨by decide, by decide, rfl⟩ ⟨trivial, ⟨Or.inr (by first | assumption | rfl | decide | omega | exact Nat.succ_ne_zero _), by first | assumption | exact tf_in (n := (k + 2)) rfl (by first | assumption | rfl) (by omega) (by decide)⟩⟩ ?_
  rw [show (X1 3 (Int32.toNatClampNeg (nI (k + 2)))) = (z (k + 2)) from (by rw [tf_cl_nI (by omega)]; exact hz1 (k + 2))]
  refine tf_cV hx ftL_case4 (nx := 342) (As := [.int (z (k + 1)), .int (z (k + 2))]) (rest := [.int ((s_keyOf A (z (k + 1)) (z (k + 2))).1)]) (st2 := [.int ((s_keyOf A (z (k + 1)) (z (k + 2))).1), .int ((s_keyOf A (z (k + 1)) (z (k + 2))).1)]) (hG1) rfl lL_39 (by first | assumption | rfl | decide) rfl ⟨rfl, by decide, by decide, by decide, rfl, rfl⟩ ?_
  refine tf_go hx ftL_case4 1 [true] 1302 [some (.ref 3), some (.ref 4), some (.ref 125), some (.int (nI k))] [] Y1 rfl ⟨by decide, by decide, rfl⟩ ⟨trivial, rfl⟩ ?_
  refine tf_go hx ftL_case4 2 [] 18 [some (.ref 3), some (.ref 4), some (.ref 125), some (.int ((nI k) + 5))] [] Y1 rfl ⟨by decide, by decide, rfl⟩ trivial ?_
  rw [show ((nI k) + 5) = nI (k + 5) from (tf_add (a := k) (b := 5) rfl (rfl : (5 : Int32) = nI 5))]
  have hz2 : ∀ j, Y1 3 j = z j := fun j => by rw [fm_le hg1 3 (by omega)]; exact hz1 j
  exact ih Y1 (s_keyOf A (z (k + 1)) (z (k + 2))).2 (ok_keyOf (z (k + 1)) (z (k + 2)) hA) (cs_fm (ok_keyOf (z (k + 1)) (z (k + 2)) hA) hc1 hg1) hm1 hz2

set_option maxHeartbeats 2000000 in
theorem law_c5 {N k : Nat} {z : Nat → Int32} {x : tf_X} {Y : tf_Sg} {A : tf_A} (hx : tf_C x cL_law RL 4 9 200 5000 false) (hN : N ≤ 320) (hk : k + 5 ≤ N) (hA : tf_okA A) (hC : tf_cs Y A) (hM : tf_ms (tf_GG N) Y 125 A) (hz : ∀ j, Y 3 j = z j) (ih : ∀ (Y : tf_Sg) (A : tf_A), tf_okA A → tf_cs Y A → tf_ms (tf_GG N) Y 125 A → (∀ j, Y 3 j = z j) → tf_K x 200 5000 (tf_GG N) Y 18 [some (.ref 3), some (.ref 4), some (.ref 125), some (.int (nI (k + 5)))] []) : tf_K x 200 5000 (tf_GG N) Y 347 [some (.ref 3), some (.ref 4), some (.ref 125), some (.int (nI k))] [] := by
  have i1 : vp_in (nI (k + 1)) (tf_ln (tf_GG N) 3) := tf_in (n := k + 1) (N := N) rfl rfl (by omega) (by omega)
  have i2 : vp_in (nI (k + 2)) (tf_ln (tf_GG N) 3) := tf_in (n := k + 2) (N := N) rfl rfl (by omega) (by omega)
  have i3 : vp_in (nI (k + 3)) (tf_ln (tf_GG N) 3) := tf_in (n := k + 3) (N := N) rfl rfl (by omega) (by omega)
  have i4 : vp_in (nI (k + 4)) (tf_ln (tf_GG N) 3) := tf_in (n := k + 4) (N := N) rfl rfl (by omega) (by omega)
  refine tf_go hx ftL_case5 1 [] 348 [some (.ref 3), some (.ref 4), some (.ref 125), some (.int (nI k))] [.ref 4] Y rfl ⟨by decide, by decide, rfl⟩ trivial ?_
  refine tf_go hx ftL_case5 4 [] 352 [some (.ref 3), some (.ref 4), some (.ref 125), some (.int (nI k))] [.int ((nI k) + 1), .ref 3, .ref 4] Y rfl ⟨by decide, by decide, rfl⟩ trivial ?_
  rw [show ((nI k) + 1) = nI (k + 1) from (tf_add (a := k) (b := 1) rfl (rfl : (1 : Int32) = nI 1))]
  refine tf_go hx ftL_case5 1 [] 353 [some (.ref 3), some (.ref 4), some (.ref 125), some (.int (nI k))] [.int (Y 3 (Int32.toNatClampNeg (nI (k + 1)))), .ref 4] Y rfl ⟨by decide, by decide, rfl⟩ ⟨trivial, ⟨Or.inr (by first | assumption | rfl | decide | omega | exact Nat.succ_ne_zero _), by first | assumption | exact tf_in (n := (k + 1)) rfl (by first | assumption | rfl) (by omega) (by decide)⟩⟩ ?_
  rw [show (Y 3 (Int32.toNatClampNeg (nI (k + 1)))) = (z (k + 1)) from (by rw [tf_cl_nI (by omega)]; exact hz (k + 1))]
  refine tf_go hx ftL_case5 4 [] 357 [some (.ref 3), some (.ref 4), some (.ref 125), some (.int (nI k))] [.int ((nI k) + 2), .ref 3, .int (z (k + 1)), .ref 4] Y rfl ⟨by decide, by decide, rfl⟩ trivial ?_
  rw [show ((nI k) + 2) = nI (k + 2) from (tf_add (a := k) (b := 2) rfl (rfl : (2 : Int32) = nI 2))]
  refine tf_go hx ftL_case5 1 [] 358 [some (.ref 3), some (.ref 4), some (.ref 125), some (.int (nI k))] [.int (Y 3 (Int32.toNatClampNeg (nI (k + 2)))), .int (z (k + 1)), .ref 4] Y rfl ⟨by decide, by decide, rfl⟩ ⟨trivial, ⟨Or.inr (by first | assumption | rfl | decide | omega | exact Nat.succ_ne_zero _), by first | assumption | exact tf_in (n := (k + 2)) rfl (by first | assumption | rfl) (by omega) (by decide)⟩⟩ ?_
  rw [show (Y 3 (Int32.toNatClampNeg (nI (k + 2)))) = (z (k + 2)) from (by rw [tf_cl_nI (by omega)]; exact hz (k + 2))]
  obtain ⟨X1, hF1, hc1, hf1⟩ := c_letterOn (N := N) (S := Y) (z (k + 1)) (z (k + 2)) hA hC
  refine tf_cV hx ftL_case5 (nx := 361) (As := [.int (z (k + 1)), .int (z (k + 2))]) (rest := []) (st2 := [.int ((s_letterOn A (z (k + 1)) (z (k + 2))).1)]) (hF1) rfl lL_40 (by first | assumption | rfl | decide) rfl ⟨rfl, by decide, by decide, by decide, rfl, rfl⟩ ?_
  have hz1 : ∀ j, X1 3 j = z j := fun j => by rw [hf1 3 (by omega)]; exact hz j
  obtain ⟨Y1, hG1, hm1, hg1⟩ := p_letterOn (G := (tf_GG N)) (S := X1) (o := 125) (z (k + 1)) (z (k + 2)) mdG.1 mdG.2 hA (ms_fc hM hf1)
  refine tf_go hx ftL_case5 1 [] 362 [some (.ref 3), some (.ref 4), some (.ref 125), some (.int (nI k))] [.ref 125, .int ((s_letterOn A (z (k + 1)) (z (k + 2))).1)] X1 rfl ⟨by decide, by decide, rfl⟩ trivial ?_
  refine tf_go hx ftL_case5 4 [] 366 [some (.ref 3), some (.ref 4), some (.ref 125), some (.int (nI k))] [.int ((nI k) + 1), .ref 3, .ref 125, .int ((s_letterOn A (z (k + 1)) (z (k + 2))).1)] X1 rfl ⟨by decide, by decide, rfl⟩ trivial ?_
  rw [show ((nI k) + 1) = nI (k + 1) from (tf_add (a := k) (b := 1) rfl (rfl : (1 : Int32) = nI 1))]
  refine tf_go hx ftL_case5 1 [] 367 [some (.ref 3), some (.ref 4), some (.ref 125), some (.int (nI k))] [.int (X1 3 (Int32.toNatClampNeg (nI (k + 1)))), .ref 125, .int ((s_letterOn A (z (k + 1)) (z (k + 2))).1)] X1 rfl ⟨by decide, by decide, rfl⟩ ⟨trivial, ⟨Or.inr (by first | assumption | rfl | decide | omega | exact Nat.succ_ne_zero _), by first | assumption | exact tf_in (n := (k + 1)) rfl (by first | assumption | rfl) (by omega) (by decide)⟩⟩ ?_
  rw [show (X1 3 (Int32.toNatClampNeg (nI (k + 1)))) = (z (k + 1)) from (by rw [tf_cl_nI (by omega)]; exact hz1 (k + 1))]
  refine tf_go hx ftL_case5 4 [] 371 [some (.ref 3), some (.ref 4), some (.ref 125), some (.int (nI k))] [.int ((nI k) + 2), .ref 3, .int (z (k + 1)), .ref 125, .int ((s_letterOn A (z (k + 1)) (z (k + 2))).1)] X1 rfl ⟨by decide, by decide, rfl⟩ trivial ?_
  rw [show ((nI k) + 2) = nI (k + 2) from (tf_add (a := k) (b := 2) rfl (rfl : (2 : Int32) = nI 2))]
  refine tf_go hx ftL_case5 1 [] 372 [some (.ref 3), some (.ref 4), some (.ref 125), some (.int (nI k))] [.int (X1 3 (Int32.toNatClampNeg (nI (k + 2)))), .int (z (k + 1)), .ref 125, .int ((s_letterOn A (z (k + 1)) (z (k + 2))).1)] X1 rfl ⟨by decide, by decide, rfl⟩ ⟨trivial, ⟨Or.inr (by first | assumption | rfl | decide | omega | exact Nat.succ_ne_zero _), by first | assumption | exact tf_in (n := (k + 2)) rfl (by first | assumption | rfl) (by omega) (by decide)⟩⟩ ?_
  rw [show (X1 3 (Int32.toNatClampNeg (nI (k + 2)))) = (z (k + 2)) from (by rw [tf_cl_nI (by omega)]; exact hz1 (k + 2))]
  refine tf_cV hx ftL_case5 (nx := 375) (As := [.int (z (k + 1)), .int (z (k + 2))]) (rest := [.int ((s_letterOn A (z (k + 1)) (z (k + 2))).1)]) (st2 := [.int ((s_letterOn A (z (k + 1)) (z (k + 2))).1), .int ((s_letterOn A (z (k + 1)) (z (k + 2))).1)]) (hG1) rfl lL_43 (by first | assumption | rfl | decide) rfl ⟨rfl, by decide, by decide, by decide, rfl, rfl⟩ ?_
  refine tf_go hx ftL_case5 1 [true] 1302 [some (.ref 3), some (.ref 4), some (.ref 125), some (.int (nI k))] [] Y1 rfl ⟨by decide, by decide, rfl⟩ ⟨trivial, rfl⟩ ?_
  refine tf_go hx ftL_case5 2 [] 18 [some (.ref 3), some (.ref 4), some (.ref 125), some (.int ((nI k) + 5))] [] Y1 rfl ⟨by decide, by decide, rfl⟩ trivial ?_
  rw [show ((nI k) + 5) = nI (k + 5) from (tf_add (a := k) (b := 5) rfl (rfl : (5 : Int32) = nI 5))]
  have hz2 : ∀ j, Y1 3 j = z j := fun j => by rw [fm_le hg1 3 (by omega)]; exact hz1 j
  exact ih Y1 (s_letterOn A (z (k + 1)) (z (k + 2))).2 (ok_letterOn (z (k + 1)) (z (k + 2)) hA) (cs_fm (ok_letterOn (z (k + 1)) (z (k + 2)) hA) hc1 hg1) hm1 hz2

set_option maxHeartbeats 2000000 in
theorem law_c6 {N k : Nat} {z : Nat → Int32} {x : tf_X} {Y : tf_Sg} {A : tf_A} (hx : tf_C x cL_law RL 4 9 200 5000 false) (hN : N ≤ 320) (hk : k + 5 ≤ N) (hA : tf_okA A) (hC : tf_cs Y A) (hM : tf_ms (tf_GG N) Y 125 A) (hz : ∀ j, Y 3 j = z j) (ih : ∀ (Y : tf_Sg) (A : tf_A), tf_okA A → tf_cs Y A → tf_ms (tf_GG N) Y 125 A → (∀ j, Y 3 j = z j) → tf_K x 200 5000 (tf_GG N) Y 18 [some (.ref 3), some (.ref 4), some (.ref 125), some (.int (nI (k + 5)))] []) : tf_K x 200 5000 (tf_GG N) Y 380 [some (.ref 3), some (.ref 4), some (.ref 125), some (.int (nI k))] [] := by
  have i1 : vp_in (nI (k + 1)) (tf_ln (tf_GG N) 3) := tf_in (n := k + 1) (N := N) rfl rfl (by omega) (by omega)
  have i2 : vp_in (nI (k + 2)) (tf_ln (tf_GG N) 3) := tf_in (n := k + 2) (N := N) rfl rfl (by omega) (by omega)
  have i3 : vp_in (nI (k + 3)) (tf_ln (tf_GG N) 3) := tf_in (n := k + 3) (N := N) rfl rfl (by omega) (by omega)
  have i4 : vp_in (nI (k + 4)) (tf_ln (tf_GG N) 3) := tf_in (n := k + 4) (N := N) rfl rfl (by omega) (by omega)
  by_cases zb : z (k + 2) = 0
  · refine tf_go hx ftL_case6 1 [] 381 [some (.ref 3), some (.ref 4), some (.ref 125), some (.int (nI k))] [.ref 4] Y rfl ⟨by decide, by decide, rfl⟩ trivial ?_
    refine tf_go hx ftL_case6 4 [] 385 [some (.ref 3), some (.ref 4), some (.ref 125), some (.int (nI k))] [.int ((nI k) + 1), .ref 3, .ref 4] Y rfl ⟨by decide, by decide, rfl⟩ trivial ?_
    rw [show ((nI k) + 1) = nI (k + 1) from (tf_add (a := k) (b := 1) rfl (rfl : (1 : Int32) = nI 1))]
    refine tf_go hx ftL_case6 1 [] 386 [some (.ref 3), some (.ref 4), some (.ref 125), some (.int (nI k))] [.int (Y 3 (Int32.toNatClampNeg (nI (k + 1)))), .ref 4] Y rfl ⟨by decide, by decide, rfl⟩ ⟨trivial, ⟨Or.inr (by first | assumption | rfl | decide | omega | exact Nat.succ_ne_zero _), by first | assumption | exact tf_in (n := (k + 1)) rfl (by first | assumption | rfl) (by omega) (by decide)⟩⟩ ?_
    rw [show (Y 3 (Int32.toNatClampNeg (nI (k + 1)))) = (z (k + 1)) from (by rw [tf_cl_nI (by omega)]; exact hz (k + 1))]
    refine tf_go hx ftL_case6 4 [] 390 [some (.ref 3), some (.ref 4), some (.ref 125), some (.int (nI k))] [.int ((nI k) + 2), .ref 3, .int (z (k + 1)), .ref 4] Y rfl ⟨by decide, by decide, rfl⟩ trivial ?_
    rw [show ((nI k) + 2) = nI (k + 2) from (tf_add (a := k) (b := 2) rfl (rfl : (2 : Int32) = nI 2))]
    refine tf_go hx ftL_case6 1 [] 391 [some (.ref 3), some (.ref 4), some (.ref 125), some (.int (nI k))] [.int (Y 3 (Int32.toNatClampNeg (nI (k + 2)))), .int (z (k + 1)), .ref 4] Y rfl ⟨by decide, by decide, rfl⟩ ⟨trivial, ⟨Or.inr (by first | assumption | rfl | decide | omega | exact Nat.succ_ne_zero _), by first | assumption | exact tf_in (n := (k + 2)) rfl (by first | assumption | rfl) (by omega) (by decide)⟩⟩ ?_
    rw [show (Y 3 (Int32.toNatClampNeg (nI (k + 2)))) = (z (k + 2)) from (by rw [tf_cl_nI (by omega)]; exact hz (k + 2))]
    refine tf_go hx ftL_case6 1 [true] 398 [some (.ref 3), some (.ref 4), some (.ref 125), some (.int (nI k))] [.int (z (k + 1)), .ref 4] Y rfl ⟨by decide, by decide, rfl⟩ ⟨trivial, zb⟩ ?_
    refine tf_go hx ftL_case6 1 [] 399 [some (.ref 3), some (.ref 4), some (.ref 125), some (.int (nI k))] [.int 0, .int (z (k + 1)), .ref 4] Y rfl ⟨by decide, by decide, rfl⟩ trivial ?_
    obtain ⟨X1, hF1, hc1, hf1⟩ := c_fingerOf (N := N) (S := Y) (z (k + 1)) 0 hA hC (by decide)
    refine tf_cV hx ftL_case6 (nx := 402) (As := [.int (z (k + 1)), .int 0]) (rest := []) (st2 := [.int ((s_fingerOf A (z (k + 1)) 0).1)]) (hF1) rfl lL_44 (by first | assumption | rfl | decide) rfl ⟨rfl, by decide, by decide, by decide, rfl, rfl⟩ ?_
    have hz1 : ∀ j, X1 3 j = z j := fun j => by rw [hf1 3 (by omega)]; exact hz j
    obtain ⟨Y1, hG1, hm1, hg1⟩ := p_fingerOf (G := (tf_GG N)) (S := X1) (o := 125) (z (k + 1)) 0 mdG.1 mdG.2 hA (ms_fc hM hf1) (by decide)
    refine tf_go hx ftL_case6 1 [] 403 [some (.ref 3), some (.ref 4), some (.ref 125), some (.int (nI k))] [.ref 125, .int ((s_fingerOf A (z (k + 1)) 0).1)] X1 rfl ⟨by decide, by decide, rfl⟩ trivial ?_
    refine tf_go hx ftL_case6 4 [] 407 [some (.ref 3), some (.ref 4), some (.ref 125), some (.int (nI k))] [.int ((nI k) + 1), .ref 3, .ref 125, .int ((s_fingerOf A (z (k + 1)) 0).1)] X1 rfl ⟨by decide, by decide, rfl⟩ trivial ?_
    rw [show ((nI k) + 1) = nI (k + 1) from (tf_add (a := k) (b := 1) rfl (rfl : (1 : Int32) = nI 1))]
    refine tf_go hx ftL_case6 1 [] 408 [some (.ref 3), some (.ref 4), some (.ref 125), some (.int (nI k))] [.int (X1 3 (Int32.toNatClampNeg (nI (k + 1)))), .ref 125, .int ((s_fingerOf A (z (k + 1)) 0).1)] X1 rfl ⟨by decide, by decide, rfl⟩ ⟨trivial, ⟨Or.inr (by first | assumption | rfl | decide | omega | exact Nat.succ_ne_zero _), by first | assumption | exact tf_in (n := (k + 1)) rfl (by first | assumption | rfl) (by omega) (by decide)⟩⟩ ?_
    rw [show (X1 3 (Int32.toNatClampNeg (nI (k + 1)))) = (z (k + 1)) from (by rw [tf_cl_nI (by omega)]; exact hz1 (k + 1))]
    refine tf_go hx ftL_case6 4 [] 412 [some (.ref 3), some (.ref 4), some (.ref 125), some (.int (nI k))] [.int ((nI k) + 2), .ref 3, .int (z (k + 1)), .ref 125, .int ((s_fingerOf A (z (k + 1)) 0).1)] X1 rfl ⟨by decide, by decide, rfl⟩ trivial ?_
    rw [show ((nI k) + 2) = nI (k + 2) from (tf_add (a := k) (b := 2) rfl (rfl : (2 : Int32) = nI 2))]
    refine tf_go hx ftL_case6 1 [] 413 [some (.ref 3), some (.ref 4), some (.ref 125), some (.int (nI k))] [.int (X1 3 (Int32.toNatClampNeg (nI (k + 2)))), .int (z (k + 1)), .ref 125, .int ((s_fingerOf A (z (k + 1)) 0).1)] X1 rfl ⟨by decide, by decide, rfl⟩ ⟨trivial, ⟨Or.inr (by first | assumption | rfl | decide | omega | exact Nat.succ_ne_zero _), by first | assumption | exact tf_in (n := (k + 2)) rfl (by first | assumption | rfl) (by omega) (by decide)⟩⟩ ?_
    rw [show (X1 3 (Int32.toNatClampNeg (nI (k + 2)))) = (z (k + 2)) from (by rw [tf_cl_nI (by omega)]; exact hz1 (k + 2))]
    refine tf_go hx ftL_case6 1 [true] 420 [some (.ref 3), some (.ref 4), some (.ref 125), some (.int (nI k))] [.int (z (k + 1)), .ref 125, .int ((s_fingerOf A (z (k + 1)) 0).1)] X1 rfl ⟨by decide, by decide, rfl⟩ ⟨trivial, zb⟩ ?_
    refine tf_go hx ftL_case6 1 [] 421 [some (.ref 3), some (.ref 4), some (.ref 125), some (.int (nI k))] [.int 0, .int (z (k + 1)), .ref 125, .int ((s_fingerOf A (z (k + 1)) 0).1)] X1 rfl ⟨by decide, by decide, rfl⟩ trivial ?_
    refine tf_cV hx ftL_case6 (nx := 424) (As := [.int (z (k + 1)), .int 0]) (rest := [.int ((s_fingerOf A (z (k + 1)) 0).1)]) (st2 := [.int ((s_fingerOf A (z (k + 1)) 0).1), .int ((s_fingerOf A (z (k + 1)) 0).1)]) (hG1) rfl lL_48 (by first | assumption | rfl | decide) rfl ⟨rfl, by decide, by decide, by decide, rfl, rfl⟩ ?_
    refine tf_go hx ftL_case6 1 [true] 1302 [some (.ref 3), some (.ref 4), some (.ref 125), some (.int (nI k))] [] Y1 rfl ⟨by decide, by decide, rfl⟩ ⟨trivial, rfl⟩ ?_
    refine tf_go hx ftL_case6 2 [] 18 [some (.ref 3), some (.ref 4), some (.ref 125), some (.int ((nI k) + 5))] [] Y1 rfl ⟨by decide, by decide, rfl⟩ trivial ?_
    rw [show ((nI k) + 5) = nI (k + 5) from (tf_add (a := k) (b := 5) rfl (rfl : (5 : Int32) = nI 5))]
    have hz2 : ∀ j, Y1 3 j = z j := fun j => by rw [fm_le hg1 3 (by omega)]; exact hz1 j
    exact ih Y1 (s_fingerOf A (z (k + 1)) 0).2 (ok_fingerOf (z (k + 1)) 0 hA) (cs_fm (ok_fingerOf (z (k + 1)) 0 hA) hc1 hg1) hm1 hz2
  · refine tf_go hx ftL_case6 1 [] 381 [some (.ref 3), some (.ref 4), some (.ref 125), some (.int (nI k))] [.ref 4] Y rfl ⟨by decide, by decide, rfl⟩ trivial ?_
    refine tf_go hx ftL_case6 4 [] 385 [some (.ref 3), some (.ref 4), some (.ref 125), some (.int (nI k))] [.int ((nI k) + 1), .ref 3, .ref 4] Y rfl ⟨by decide, by decide, rfl⟩ trivial ?_
    rw [show ((nI k) + 1) = nI (k + 1) from (tf_add (a := k) (b := 1) rfl (rfl : (1 : Int32) = nI 1))]
    refine tf_go hx ftL_case6 1 [] 386 [some (.ref 3), some (.ref 4), some (.ref 125), some (.int (nI k))] [.int (Y 3 (Int32.toNatClampNeg (nI (k + 1)))), .ref 4] Y rfl ⟨by decide, by decide, rfl⟩ ⟨trivial, ⟨Or.inr (by first | assumption | rfl | decide | omega | exact Nat.succ_ne_zero _), by first | assumption | exact tf_in (n := (k + 1)) rfl (by first | assumption | rfl) (by omega) (by decide)⟩⟩ ?_
    rw [show (Y 3 (Int32.toNatClampNeg (nI (k + 1)))) = (z (k + 1)) from (by rw [tf_cl_nI (by omega)]; exact hz (k + 1))]
    refine tf_go hx ftL_case6 4 [] 390 [some (.ref 3), some (.ref 4), some (.ref 125), some (.int (nI k))] [.int ((nI k) + 2), .ref 3, .int (z (k + 1)), .ref 4] Y rfl ⟨by decide, by decide, rfl⟩ trivial ?_
    rw [show ((nI k) + 2) = nI (k + 2) from (tf_add (a := k) (b := 2) rfl (rfl : (2 : Int32) = nI 2))]
    refine tf_go hx ftL_case6 1 [] 391 [some (.ref 3), some (.ref 4), some (.ref 125), some (.int (nI k))] [.int (Y 3 (Int32.toNatClampNeg (nI (k + 2)))), .int (z (k + 1)), .ref 4] Y rfl ⟨by decide, by decide, rfl⟩ ⟨trivial, ⟨Or.inr (by first | assumption | rfl | decide | omega | exact Nat.succ_ne_zero _), by first | assumption | exact tf_in (n := (k + 2)) rfl (by first | assumption | rfl) (by omega) (by decide)⟩⟩ ?_
    rw [show (Y 3 (Int32.toNatClampNeg (nI (k + 2)))) = (z (k + 2)) from (by rw [tf_cl_nI (by omega)]; exact hz (k + 2))]
    refine tf_go hx ftL_case6 1 [false] 394 [some (.ref 3), some (.ref 4), some (.ref 125), some (.int (nI k))] [.int (z (k + 1)), .ref 4] Y rfl ⟨by decide, by decide, rfl⟩ ⟨trivial, zb⟩ ?_
    refine tf_go hx ftL_case6 2 [] 399 [some (.ref 3), some (.ref 4), some (.ref 125), some (.int (nI k))] [.int 1, .int (z (k + 1)), .ref 4] Y rfl ⟨by decide, by decide, rfl⟩ trivial ?_
    obtain ⟨X1, hF1, hc1, hf1⟩ := c_fingerOf (N := N) (S := Y) (z (k + 1)) 1 hA hC (by decide)
    refine tf_cV hx ftL_case6 (nx := 402) (As := [.int (z (k + 1)), .int 1]) (rest := []) (st2 := [.int ((s_fingerOf A (z (k + 1)) 1).1)]) (hF1) rfl lL_44 (by first | assumption | rfl | decide) rfl ⟨rfl, by decide, by decide, by decide, rfl, rfl⟩ ?_
    have hz1 : ∀ j, X1 3 j = z j := fun j => by rw [hf1 3 (by omega)]; exact hz j
    obtain ⟨Y1, hG1, hm1, hg1⟩ := p_fingerOf (G := (tf_GG N)) (S := X1) (o := 125) (z (k + 1)) 1 mdG.1 mdG.2 hA (ms_fc hM hf1) (by decide)
    refine tf_go hx ftL_case6 1 [] 403 [some (.ref 3), some (.ref 4), some (.ref 125), some (.int (nI k))] [.ref 125, .int ((s_fingerOf A (z (k + 1)) 1).1)] X1 rfl ⟨by decide, by decide, rfl⟩ trivial ?_
    refine tf_go hx ftL_case6 4 [] 407 [some (.ref 3), some (.ref 4), some (.ref 125), some (.int (nI k))] [.int ((nI k) + 1), .ref 3, .ref 125, .int ((s_fingerOf A (z (k + 1)) 1).1)] X1 rfl ⟨by decide, by decide, rfl⟩ trivial ?_
    rw [show ((nI k) + 1) = nI (k + 1) from (tf_add (a := k) (b := 1) rfl (rfl : (1 : Int32) = nI 1))]
    refine tf_go hx ftL_case6 1 [] 408 [some (.ref 3), some (.ref 4), some (.ref 125), some (.int (nI k))] [.int (X1 3 (Int32.toNatClampNeg (nI (k + 1)))), .ref 125, .int ((s_fingerOf A (z (k + 1)) 1).1)] X1 rfl ⟨by decide, by decide, rfl⟩ ⟨trivial, ⟨Or.inr (by first | assumption | rfl | decide | omega | exact Nat.succ_ne_zero _), by first | assumption | exact tf_in (n := (k + 1)) rfl (by first | assumption | rfl) (by omega) (by decide)⟩⟩ ?_
    rw [show (X1 3 (Int32.toNatClampNeg (nI (k + 1)))) = (z (k + 1)) from (by rw [tf_cl_nI (by omega)]; exact hz1 (k + 1))]
    refine tf_go hx ftL_case6 4 [] 412 [some (.ref 3), some (.ref 4), some (.ref 125), some (.int (nI k))] [.int ((nI k) + 2), .ref 3, .int (z (k + 1)), .ref 125, .int ((s_fingerOf A (z (k + 1)) 1).1)] X1 rfl ⟨by decide, by decide, rfl⟩ trivial ?_
    rw [show ((nI k) + 2) = nI (k + 2) from (tf_add (a := k) (b := 2) rfl (rfl : (2 : Int32) = nI 2))]
    refine tf_go hx ftL_case6 1 [] 413 [some (.ref 3), some (.ref 4), some (.ref 125), some (.int (nI k))] [.int (X1 3 (Int32.toNatClampNeg (nI (k + 2)))), .int (z (k + 1)), .ref 125, .int ((s_fingerOf A (z (k + 1)) 1).1)] X1 rfl ⟨by decide, by decide, rfl⟩ ⟨trivial, ⟨Or.inr (by first | assumption | rfl | decide | omega | exact Nat.succ_ne_zero _), by first | assumption | exact tf_in (n := (k + 2)) rfl (by first | assumption | rfl) (by omega) (by decide)⟩⟩ ?_
    rw [show (X1 3 (Int32.toNatClampNeg (nI (k + 2)))) = (z (k + 2)) from (by rw [tf_cl_nI (by omega)]; exact hz1 (k + 2))]
    refine tf_go hx ftL_case6 1 [false] 416 [some (.ref 3), some (.ref 4), some (.ref 125), some (.int (nI k))] [.int (z (k + 1)), .ref 125, .int ((s_fingerOf A (z (k + 1)) 1).1)] X1 rfl ⟨by decide, by decide, rfl⟩ ⟨trivial, zb⟩ ?_
    refine tf_go hx ftL_case6 2 [] 421 [some (.ref 3), some (.ref 4), some (.ref 125), some (.int (nI k))] [.int 1, .int (z (k + 1)), .ref 125, .int ((s_fingerOf A (z (k + 1)) 1).1)] X1 rfl ⟨by decide, by decide, rfl⟩ trivial ?_
    refine tf_cV hx ftL_case6 (nx := 424) (As := [.int (z (k + 1)), .int 1]) (rest := [.int ((s_fingerOf A (z (k + 1)) 1).1)]) (st2 := [.int ((s_fingerOf A (z (k + 1)) 1).1), .int ((s_fingerOf A (z (k + 1)) 1).1)]) (hG1) rfl lL_48 (by first | assumption | rfl | decide) rfl ⟨rfl, by decide, by decide, by decide, rfl, rfl⟩ ?_
    refine tf_go hx ftL_case6 1 [true] 1302 [some (.ref 3), some (.ref 4), some (.ref 125), some (.int (nI k))] [] Y1 rfl ⟨by decide, by decide, rfl⟩ ⟨trivial, rfl⟩ ?_
    refine tf_go hx ftL_case6 2 [] 18 [some (.ref 3), some (.ref 4), some (.ref 125), some (.int ((nI k) + 5))] [] Y1 rfl ⟨by decide, by decide, rfl⟩ trivial ?_
    rw [show ((nI k) + 5) = nI (k + 5) from (tf_add (a := k) (b := 5) rfl (rfl : (5 : Int32) = nI 5))]
    have hz2 : ∀ j, Y1 3 j = z j := fun j => by rw [fm_le hg1 3 (by omega)]; exact hz1 j
    exact ih Y1 (s_fingerOf A (z (k + 1)) 1).2 (ok_fingerOf (z (k + 1)) 1 hA) (cs_fm (ok_fingerOf (z (k + 1)) 1 hA) hc1 hg1) hm1 hz2

set_option maxHeartbeats 2000000 in
theorem law_c7 {N k : Nat} {z : Nat → Int32} {x : tf_X} {Y : tf_Sg} {A : tf_A} (hx : tf_C x cL_law RL 4 9 200 5000 false) (hN : N ≤ 320) (hk : k + 5 ≤ N) (hA : tf_okA A) (hC : tf_cs Y A) (hM : tf_ms (tf_GG N) Y 125 A) (hz : ∀ j, Y 3 j = z j) (ih : ∀ (Y : tf_Sg) (A : tf_A), tf_okA A → tf_cs Y A → tf_ms (tf_GG N) Y 125 A → (∀ j, Y 3 j = z j) → tf_K x 200 5000 (tf_GG N) Y 18 [some (.ref 3), some (.ref 4), some (.ref 125), some (.int (nI (k + 5)))] []) : tf_K x 200 5000 (tf_GG N) Y 429 [some (.ref 3), some (.ref 4), some (.ref 125), some (.int (nI k))] [] := by
  have i1 : vp_in (nI (k + 1)) (tf_ln (tf_GG N) 3) := tf_in (n := k + 1) (N := N) rfl rfl (by omega) (by omega)
  have i2 : vp_in (nI (k + 2)) (tf_ln (tf_GG N) 3) := tf_in (n := k + 2) (N := N) rfl rfl (by omega) (by omega)
  have i3 : vp_in (nI (k + 3)) (tf_ln (tf_GG N) 3) := tf_in (n := k + 3) (N := N) rfl rfl (by omega) (by omega)
  have i4 : vp_in (nI (k + 4)) (tf_ln (tf_GG N) 3) := tf_in (n := k + 4) (N := N) rfl rfl (by omega) (by omega)
  refine tf_go hx ftL_case7 1 [] 430 [some (.ref 3), some (.ref 4), some (.ref 125), some (.int (nI k))] [.ref 4] Y rfl ⟨by decide, by decide, rfl⟩ trivial ?_
  refine tf_go hx ftL_case7 4 [] 434 [some (.ref 3), some (.ref 4), some (.ref 125), some (.int (nI k))] [.int ((nI k) + 1), .ref 3, .ref 4] Y rfl ⟨by decide, by decide, rfl⟩ trivial ?_
  rw [show ((nI k) + 1) = nI (k + 1) from (tf_add (a := k) (b := 1) rfl (rfl : (1 : Int32) = nI 1))]
  refine tf_go hx ftL_case7 1 [] 435 [some (.ref 3), some (.ref 4), some (.ref 125), some (.int (nI k))] [.int (Y 3 (Int32.toNatClampNeg (nI (k + 1)))), .ref 4] Y rfl ⟨by decide, by decide, rfl⟩ ⟨trivial, ⟨Or.inr (by first | assumption | rfl | decide | omega | exact Nat.succ_ne_zero _), by first | assumption | exact tf_in (n := (k + 1)) rfl (by first | assumption | rfl) (by omega) (by decide)⟩⟩ ?_
  rw [show (Y 3 (Int32.toNatClampNeg (nI (k + 1)))) = (z (k + 1)) from (by rw [tf_cl_nI (by omega)]; exact hz (k + 1))]
  refine tf_go hx ftL_case7 4 [] 439 [some (.ref 3), some (.ref 4), some (.ref 125), some (.int (nI k))] [.int ((nI k) + 2), .ref 3, .int (z (k + 1)), .ref 4] Y rfl ⟨by decide, by decide, rfl⟩ trivial ?_
  rw [show ((nI k) + 2) = nI (k + 2) from (tf_add (a := k) (b := 2) rfl (rfl : (2 : Int32) = nI 2))]
  refine tf_go hx ftL_case7 1 [] 440 [some (.ref 3), some (.ref 4), some (.ref 125), some (.int (nI k))] [.int (Y 3 (Int32.toNatClampNeg (nI (k + 2)))), .int (z (k + 1)), .ref 4] Y rfl ⟨by decide, by decide, rfl⟩ ⟨trivial, ⟨Or.inr (by first | assumption | rfl | decide | omega | exact Nat.succ_ne_zero _), by first | assumption | exact tf_in (n := (k + 2)) rfl (by first | assumption | rfl) (by omega) (by decide)⟩⟩ ?_
  rw [show (Y 3 (Int32.toNatClampNeg (nI (k + 2)))) = (z (k + 2)) from (by rw [tf_cl_nI (by omega)]; exact hz (k + 2))]
  refine tf_go hx ftL_case7 4 [] 444 [some (.ref 3), some (.ref 4), some (.ref 125), some (.int (nI k))] [.int ((nI k) + 3), .ref 3, .int (z (k + 2)), .int (z (k + 1)), .ref 4] Y rfl ⟨by decide, by decide, rfl⟩ trivial ?_
  rw [show ((nI k) + 3) = nI (k + 3) from (tf_add (a := k) (b := 3) rfl (rfl : (3 : Int32) = nI 3))]
  refine tf_go hx ftL_case7 1 [] 445 [some (.ref 3), some (.ref 4), some (.ref 125), some (.int (nI k))] [.int (Y 3 (Int32.toNatClampNeg (nI (k + 3)))), .int (z (k + 2)), .int (z (k + 1)), .ref 4] Y rfl ⟨by decide, by decide, rfl⟩ ⟨trivial, ⟨Or.inr (by first | assumption | rfl | decide | omega | exact Nat.succ_ne_zero _), by first | assumption | exact tf_in (n := (k + 3)) rfl (by first | assumption | rfl) (by omega) (by decide)⟩⟩ ?_
  rw [show (Y 3 (Int32.toNatClampNeg (nI (k + 3)))) = (z (k + 3)) from (by rw [tf_cl_nI (by omega)]; exact hz (k + 3))]
  obtain ⟨X1, hF1, hc1, hf1⟩ := c_law (N := N) (S := Y) (z (k + 1)) (z (k + 2)) (z (k + 3)) hA hC
  refine tf_cV hx ftL_case7 (nx := 448) (As := [.int (z (k + 1)), .int (z (k + 2)), .int (z (k + 3))]) (rest := []) (st2 := [.int ((s_law A (z (k + 1)) (z (k + 2)) (z (k + 3))).1)]) (hF1) rfl lL_49 (by first | assumption | rfl | decide) rfl ⟨rfl, by decide, by decide, by decide, rfl, rfl⟩ ?_
  have hz1 : ∀ j, X1 3 j = z j := fun j => by rw [hf1 3 (by omega)]; exact hz j
  obtain ⟨Y1, hG1, hm1, hg1⟩ := p_law (G := (tf_GG N)) (S := X1) (o := 125) (z (k + 1)) (z (k + 2)) (z (k + 3)) mdG.1 mdG.2 hA (ms_fc hM hf1)
  refine tf_go hx ftL_case7 1 [] 449 [some (.ref 3), some (.ref 4), some (.ref 125), some (.int (nI k))] [.ref 125, .int ((s_law A (z (k + 1)) (z (k + 2)) (z (k + 3))).1)] X1 rfl ⟨by decide, by decide, rfl⟩ trivial ?_
  refine tf_go hx ftL_case7 4 [] 453 [some (.ref 3), some (.ref 4), some (.ref 125), some (.int (nI k))] [.int ((nI k) + 1), .ref 3, .ref 125, .int ((s_law A (z (k + 1)) (z (k + 2)) (z (k + 3))).1)] X1 rfl ⟨by decide, by decide, rfl⟩ trivial ?_
  rw [show ((nI k) + 1) = nI (k + 1) from (tf_add (a := k) (b := 1) rfl (rfl : (1 : Int32) = nI 1))]
  refine tf_go hx ftL_case7 1 [] 454 [some (.ref 3), some (.ref 4), some (.ref 125), some (.int (nI k))] [.int (X1 3 (Int32.toNatClampNeg (nI (k + 1)))), .ref 125, .int ((s_law A (z (k + 1)) (z (k + 2)) (z (k + 3))).1)] X1 rfl ⟨by decide, by decide, rfl⟩ ⟨trivial, ⟨Or.inr (by first | assumption | rfl | decide | omega | exact Nat.succ_ne_zero _), by first | assumption | exact tf_in (n := (k + 1)) rfl (by first | assumption | rfl) (by omega) (by decide)⟩⟩ ?_
  rw [show (X1 3 (Int32.toNatClampNeg (nI (k + 1)))) = (z (k + 1)) from (by rw [tf_cl_nI (by omega)]; exact hz1 (k + 1))]
  refine tf_go hx ftL_case7 4 [] 458 [some (.ref 3), some (.ref 4), some (.ref 125), some (.int (nI k))] [.int ((nI k) + 2), .ref 3, .int (z (k + 1)), .ref 125, .int ((s_law A (z (k + 1)) (z (k + 2)) (z (k + 3))).1)] X1 rfl ⟨by decide, by decide, rfl⟩ trivial ?_
  rw [show ((nI k) + 2) = nI (k + 2) from (tf_add (a := k) (b := 2) rfl (rfl : (2 : Int32) = nI 2))]
  refine tf_go hx ftL_case7 1 [] 459 [some (.ref 3), some (.ref 4), some (.ref 125), some (.int (nI k))] [.int (X1 3 (Int32.toNatClampNeg (nI (k + 2)))), .int (z (k + 1)), .ref 125, .int ((s_law A (z (k + 1)) (z (k + 2)) (z (k + 3))).1)] X1 rfl ⟨by decide, by decide, rfl⟩ ⟨trivial, ⟨Or.inr (by first | assumption | rfl | decide | omega | exact Nat.succ_ne_zero _), by first | assumption | exact tf_in (n := (k + 2)) rfl (by first | assumption | rfl) (by omega) (by decide)⟩⟩ ?_
  rw [show (X1 3 (Int32.toNatClampNeg (nI (k + 2)))) = (z (k + 2)) from (by rw [tf_cl_nI (by omega)]; exact hz1 (k + 2))]
  refine tf_go hx ftL_case7 4 [] 463 [some (.ref 3), some (.ref 4), some (.ref 125), some (.int (nI k))] [.int ((nI k) + 3), .ref 3, .int (z (k + 2)), .int (z (k + 1)), .ref 125, .int ((s_law A (z (k + 1)) (z (k + 2)) (z (k + 3))).1)] X1 rfl ⟨by decide, by decide, rfl⟩ trivial ?_
  rw [show ((nI k) + 3) = nI (k + 3) from (tf_add (a := k) (b := 3) rfl (rfl : (3 : Int32) = nI 3))]
  refine tf_go hx ftL_case7 1 [] 464 [some (.ref 3), some (.ref 4), some (.ref 125), some (.int (nI k))] [.int (X1 3 (Int32.toNatClampNeg (nI (k + 3)))), .int (z (k + 2)), .int (z (k + 1)), .ref 125, .int ((s_law A (z (k + 1)) (z (k + 2)) (z (k + 3))).1)] X1 rfl ⟨by decide, by decide, rfl⟩ ⟨trivial, ⟨Or.inr (by first | assumption | rfl | decide | omega | exact Nat.succ_ne_zero _), by first | assumption | exact tf_in (n := (k + 3)) rfl (by first | assumption | rfl) (by omega) (by decide)⟩⟩ ?_
  rw [show (X1 3 (Int32.toNatClampNeg (nI (k + 3)))) = (z (k + 3)) from (by rw [tf_cl_nI (by omega)]; exact hz1 (k + 3))]
  refine tf_cV hx ftL_case7 (nx := 467) (As := [.int (z (k + 1)), .int (z (k + 2)), .int (z (k + 3))]) (rest := [.int ((s_law A (z (k + 1)) (z (k + 2)) (z (k + 3))).1)]) (st2 := [.int ((s_law A (z (k + 1)) (z (k + 2)) (z (k + 3))).1), .int ((s_law A (z (k + 1)) (z (k + 2)) (z (k + 3))).1)]) (hG1) rfl lL_53 (by first | assumption | rfl | decide) rfl ⟨rfl, by decide, by decide, by decide, rfl, rfl⟩ ?_
  refine tf_go hx ftL_case7 1 [true] 1302 [some (.ref 3), some (.ref 4), some (.ref 125), some (.int (nI k))] [] Y1 rfl ⟨by decide, by decide, rfl⟩ ⟨trivial, rfl⟩ ?_
  refine tf_go hx ftL_case7 2 [] 18 [some (.ref 3), some (.ref 4), some (.ref 125), some (.int ((nI k) + 5))] [] Y1 rfl ⟨by decide, by decide, rfl⟩ trivial ?_
  rw [show ((nI k) + 5) = nI (k + 5) from (tf_add (a := k) (b := 5) rfl (rfl : (5 : Int32) = nI 5))]
  have hz2 : ∀ j, Y1 3 j = z j := fun j => by rw [fm_le hg1 3 (by omega)]; exact hz1 j
  exact ih Y1 (s_law A (z (k + 1)) (z (k + 2)) (z (k + 3))).2 (ok_law (z (k + 1)) (z (k + 2)) (z (k + 3)) hA) (cs_fm (ok_law (z (k + 1)) (z (k + 2)) (z (k + 3)) hA) hc1 hg1) hm1 hz2

set_option maxHeartbeats 2000000 in
theorem law_c8 {N k : Nat} {z : Nat → Int32} {x : tf_X} {Y : tf_Sg} {A : tf_A} (hx : tf_C x cL_law RL 4 9 200 5000 false) (hN : N ≤ 320) (hk : k + 5 ≤ N) (hA : tf_okA A) (hC : tf_cs Y A) (hM : tf_ms (tf_GG N) Y 125 A) (hz : ∀ j, Y 3 j = z j) (ih : ∀ (Y : tf_Sg) (A : tf_A), tf_okA A → tf_cs Y A → tf_ms (tf_GG N) Y 125 A → (∀ j, Y 3 j = z j) → tf_K x 200 5000 (tf_GG N) Y 18 [some (.ref 3), some (.ref 4), some (.ref 125), some (.int (nI (k + 5)))] []) : tf_K x 200 5000 (tf_GG N) Y 472 [some (.ref 3), some (.ref 4), some (.ref 125), some (.int (nI k))] [] := by
  have i1 : vp_in (nI (k + 1)) (tf_ln (tf_GG N) 3) := tf_in (n := k + 1) (N := N) rfl rfl (by omega) (by omega)
  have i2 : vp_in (nI (k + 2)) (tf_ln (tf_GG N) 3) := tf_in (n := k + 2) (N := N) rfl rfl (by omega) (by omega)
  have i3 : vp_in (nI (k + 3)) (tf_ln (tf_GG N) 3) := tf_in (n := k + 3) (N := N) rfl rfl (by omega) (by omega)
  have i4 : vp_in (nI (k + 4)) (tf_ln (tf_GG N) 3) := tf_in (n := k + 4) (N := N) rfl rfl (by omega) (by omega)
  refine tf_go hx ftL_case8 1 [] 473 [some (.ref 3), some (.ref 4), some (.ref 125), some (.int (nI k))] [.ref 4] Y rfl ⟨by decide, by decide, rfl⟩ trivial ?_
  refine tf_go hx ftL_case8 4 [] 477 [some (.ref 3), some (.ref 4), some (.ref 125), some (.int (nI k))] [.int ((nI k) + 1), .ref 3, .ref 4] Y rfl ⟨by decide, by decide, rfl⟩ trivial ?_
  rw [show ((nI k) + 1) = nI (k + 1) from (tf_add (a := k) (b := 1) rfl (rfl : (1 : Int32) = nI 1))]
  refine tf_go hx ftL_case8 1 [] 478 [some (.ref 3), some (.ref 4), some (.ref 125), some (.int (nI k))] [.int (Y 3 (Int32.toNatClampNeg (nI (k + 1)))), .ref 4] Y rfl ⟨by decide, by decide, rfl⟩ ⟨trivial, ⟨Or.inr (by first | assumption | rfl | decide | omega | exact Nat.succ_ne_zero _), by first | assumption | exact tf_in (n := (k + 1)) rfl (by first | assumption | rfl) (by omega) (by decide)⟩⟩ ?_
  rw [show (Y 3 (Int32.toNatClampNeg (nI (k + 1)))) = (z (k + 1)) from (by rw [tf_cl_nI (by omega)]; exact hz (k + 1))]
  refine tf_go hx ftL_case8 4 [] 482 [some (.ref 3), some (.ref 4), some (.ref 125), some (.int (nI k))] [.int ((nI k) + 2), .ref 3, .int (z (k + 1)), .ref 4] Y rfl ⟨by decide, by decide, rfl⟩ trivial ?_
  rw [show ((nI k) + 2) = nI (k + 2) from (tf_add (a := k) (b := 2) rfl (rfl : (2 : Int32) = nI 2))]
  refine tf_go hx ftL_case8 1 [] 483 [some (.ref 3), some (.ref 4), some (.ref 125), some (.int (nI k))] [.int (Y 3 (Int32.toNatClampNeg (nI (k + 2)))), .int (z (k + 1)), .ref 4] Y rfl ⟨by decide, by decide, rfl⟩ ⟨trivial, ⟨Or.inr (by first | assumption | rfl | decide | omega | exact Nat.succ_ne_zero _), by first | assumption | exact tf_in (n := (k + 2)) rfl (by first | assumption | rfl) (by omega) (by decide)⟩⟩ ?_
  rw [show (Y 3 (Int32.toNatClampNeg (nI (k + 2)))) = (z (k + 2)) from (by rw [tf_cl_nI (by omega)]; exact hz (k + 2))]
  refine tf_go hx ftL_case8 4 [] 487 [some (.ref 3), some (.ref 4), some (.ref 125), some (.int (nI k))] [.int ((nI k) + 3), .ref 3, .int (z (k + 2)), .int (z (k + 1)), .ref 4] Y rfl ⟨by decide, by decide, rfl⟩ trivial ?_
  rw [show ((nI k) + 3) = nI (k + 3) from (tf_add (a := k) (b := 3) rfl (rfl : (3 : Int32) = nI 3))]
  refine tf_go hx ftL_case8 1 [] 488 [some (.ref 3), some (.ref 4), some (.ref 125), some (.int (nI k))] [.int (Y 3 (Int32.toNatClampNeg (nI (k + 3)))), .int (z (k + 2)), .int (z (k + 1)), .ref 4] Y rfl ⟨by decide, by decide, rfl⟩ ⟨trivial, ⟨Or.inr (by first | assumption | rfl | decide | omega | exact Nat.succ_ne_zero _), by first | assumption | exact tf_in (n := (k + 3)) rfl (by first | assumption | rfl) (by omega) (by decide)⟩⟩ ?_
  rw [show (Y 3 (Int32.toNatClampNeg (nI (k + 3)))) = (z (k + 3)) from (by rw [tf_cl_nI (by omega)]; exact hz (k + 3))]
  refine tf_go hx ftL_case8 4 [] 492 [some (.ref 3), some (.ref 4), some (.ref 125), some (.int (nI k))] [.int ((nI k) + 4), .ref 3, .int (z (k + 3)), .int (z (k + 2)), .int (z (k + 1)), .ref 4] Y rfl ⟨by decide, by decide, rfl⟩ trivial ?_
  rw [show ((nI k) + 4) = nI (k + 4) from (tf_add (a := k) (b := 4) rfl (rfl : (4 : Int32) = nI 4))]
  refine tf_go hx ftL_case8 1 [] 493 [some (.ref 3), some (.ref 4), some (.ref 125), some (.int (nI k))] [.int (Y 3 (Int32.toNatClampNeg (nI (k + 4)))), .int (z (k + 3)), .int (z (k + 2)), .int (z (k + 1)), .ref 4] Y rfl ⟨by decide, by decide, rfl⟩ ⟨trivial, ⟨Or.inr (by first | assumption | rfl | decide | omega | exact Nat.succ_ne_zero _), by first | assumption | exact tf_in (n := (k + 4)) rfl (by first | assumption | rfl) (by omega) (by decide)⟩⟩ ?_
  rw [show (Y 3 (Int32.toNatClampNeg (nI (k + 4)))) = (z (k + 4)) from (by rw [tf_cl_nI (by omega)]; exact hz (k + 4))]
  obtain ⟨X1, hF1, hc1, hf1⟩ := c_gap (N := N) (S := Y) (z (k + 1)) (z (k + 2)) (z (k + 3)) (z (k + 4)) hA hC
  refine tf_cV hx ftL_case8 (nx := 496) (As := [.int (z (k + 1)), .int (z (k + 2)), .int (z (k + 3)), .int (z (k + 4))]) (rest := []) (st2 := [.int ((s_gap A (z (k + 1)) (z (k + 2)) (z (k + 3)) (z (k + 4))).1)]) (hF1) rfl lL_54 (by first | assumption | rfl | decide) rfl ⟨rfl, by decide, by decide, by decide, rfl, rfl⟩ ?_
  have hz1 : ∀ j, X1 3 j = z j := fun j => by rw [hf1 3 (by omega)]; exact hz j
  obtain ⟨Y1, hG1, hm1, hg1⟩ := p_gap (G := (tf_GG N)) (S := X1) (o := 125) (z (k + 1)) (z (k + 2)) (z (k + 3)) (z (k + 4)) mdG.1 mdG.2 hA (ms_fc hM hf1)
  refine tf_go hx ftL_case8 1 [] 497 [some (.ref 3), some (.ref 4), some (.ref 125), some (.int (nI k))] [.ref 125, .int ((s_gap A (z (k + 1)) (z (k + 2)) (z (k + 3)) (z (k + 4))).1)] X1 rfl ⟨by decide, by decide, rfl⟩ trivial ?_
  refine tf_go hx ftL_case8 4 [] 501 [some (.ref 3), some (.ref 4), some (.ref 125), some (.int (nI k))] [.int ((nI k) + 1), .ref 3, .ref 125, .int ((s_gap A (z (k + 1)) (z (k + 2)) (z (k + 3)) (z (k + 4))).1)] X1 rfl ⟨by decide, by decide, rfl⟩ trivial ?_
  rw [show ((nI k) + 1) = nI (k + 1) from (tf_add (a := k) (b := 1) rfl (rfl : (1 : Int32) = nI 1))]
  refine tf_go hx ftL_case8 1 [] 502 [some (.ref 3), some (.ref 4), some (.ref 125), some (.int (nI k))] [.int (X1 3 (Int32.toNatClampNeg (nI (k + 1)))), .ref 125, .int ((s_gap A (z (k + 1)) (z (k + 2)) (z (k + 3)) (z (k + 4))).1)] X1 rfl ⟨by decide, by decide, rfl⟩ ⟨trivial, ⟨Or.inr (by first | assumption | rfl | decide | omega | exact Nat.succ_ne_zero _), by first | assumption | exact tf_in (n := (k + 1)) rfl (by first | assumption | rfl) (by omega) (by decide)⟩⟩ ?_
  rw [show (X1 3 (Int32.toNatClampNeg (nI (k + 1)))) = (z (k + 1)) from (by rw [tf_cl_nI (by omega)]; exact hz1 (k + 1))]
  refine tf_go hx ftL_case8 4 [] 506 [some (.ref 3), some (.ref 4), some (.ref 125), some (.int (nI k))] [.int ((nI k) + 2), .ref 3, .int (z (k + 1)), .ref 125, .int ((s_gap A (z (k + 1)) (z (k + 2)) (z (k + 3)) (z (k + 4))).1)] X1 rfl ⟨by decide, by decide, rfl⟩ trivial ?_
  rw [show ((nI k) + 2) = nI (k + 2) from (tf_add (a := k) (b := 2) rfl (rfl : (2 : Int32) = nI 2))]
  refine tf_go hx ftL_case8 1 [] 507 [some (.ref 3), some (.ref 4), some (.ref 125), some (.int (nI k))] [.int (X1 3 (Int32.toNatClampNeg (nI (k + 2)))), .int (z (k + 1)), .ref 125, .int ((s_gap A (z (k + 1)) (z (k + 2)) (z (k + 3)) (z (k + 4))).1)] X1 rfl ⟨by decide, by decide, rfl⟩ ⟨trivial, ⟨Or.inr (by first | assumption | rfl | decide | omega | exact Nat.succ_ne_zero _), by first | assumption | exact tf_in (n := (k + 2)) rfl (by first | assumption | rfl) (by omega) (by decide)⟩⟩ ?_
  rw [show (X1 3 (Int32.toNatClampNeg (nI (k + 2)))) = (z (k + 2)) from (by rw [tf_cl_nI (by omega)]; exact hz1 (k + 2))]
  refine tf_go hx ftL_case8 4 [] 511 [some (.ref 3), some (.ref 4), some (.ref 125), some (.int (nI k))] [.int ((nI k) + 3), .ref 3, .int (z (k + 2)), .int (z (k + 1)), .ref 125, .int ((s_gap A (z (k + 1)) (z (k + 2)) (z (k + 3)) (z (k + 4))).1)] X1 rfl ⟨by decide, by decide, rfl⟩ trivial ?_
  rw [show ((nI k) + 3) = nI (k + 3) from (tf_add (a := k) (b := 3) rfl (rfl : (3 : Int32) = nI 3))]
  refine tf_go hx ftL_case8 1 [] 512 [some (.ref 3), some (.ref 4), some (.ref 125), some (.int (nI k))] [.int (X1 3 (Int32.toNatClampNeg (nI (k + 3)))), .int (z (k + 2)), .int (z (k + 1)), .ref 125, .int ((s_gap A (z (k + 1)) (z (k + 2)) (z (k + 3)) (z (k + 4))).1)] X1 rfl ⟨by decide, by decide, rfl⟩ ⟨trivial, ⟨Or.inr (by first | assumption | rfl | decide | omega | exact Nat.succ_ne_zero _), by first | assumption | exact tf_in (n := (k + 3)) rfl (by first | assumption | rfl) (by omega) (by decide)⟩⟩ ?_
  rw [show (X1 3 (Int32.toNatClampNeg (nI (k + 3)))) = (z (k + 3)) from (by rw [tf_cl_nI (by omega)]; exact hz1 (k + 3))]
  refine tf_go hx ftL_case8 4 [] 516 [some (.ref 3), some (.ref 4), some (.ref 125), some (.int (nI k))] [.int ((nI k) + 4), .ref 3, .int (z (k + 3)), .int (z (k + 2)), .int (z (k + 1)), .ref 125, .int ((s_gap A (z (k + 1)) (z (k + 2)) (z (k + 3)) (z (k + 4))).1)] X1 rfl ⟨by decide, by decide, rfl⟩ trivial ?_
  rw [show ((nI k) + 4) = nI (k + 4) from (tf_add (a := k) (b := 4) rfl (rfl : (4 : Int32) = nI 4))]
  refine tf_go hx ftL_case8 1 [] 517 [some (.ref 3), some (.ref 4), some (.ref 125), some (.int (nI k))] [.int (X1 3 (Int32.toNatClampNeg (nI (k + 4)))), .int (z (k + 3)), .int (z (k + 2)), .int (z (k + 1)), .ref 125, .int ((s_gap A (z (k + 1)) (z (k + 2)) (z (k + 3)) (z (k + 4))).1)] X1 rfl ⟨by decide, by decide, rfl⟩ ⟨trivial, ⟨Or.inr (by first | assumption | rfl | decide | omega | exact Nat.succ_ne_zero _), by first | assumption | exact tf_in (n := (k + 4)) rfl (by first | assumption | rfl) (by omega) (by decide)⟩⟩ ?_
  rw [show (X1 3 (Int32.toNatClampNeg (nI (k + 4)))) = (z (k + 4)) from (by rw [tf_cl_nI (by omega)]; exact hz1 (k + 4))]
  refine tf_cV hx ftL_case8 (nx := 520) (As := [.int (z (k + 1)), .int (z (k + 2)), .int (z (k + 3)), .int (z (k + 4))]) (rest := [.int ((s_gap A (z (k + 1)) (z (k + 2)) (z (k + 3)) (z (k + 4))).1)]) (st2 := [.int ((s_gap A (z (k + 1)) (z (k + 2)) (z (k + 3)) (z (k + 4))).1), .int ((s_gap A (z (k + 1)) (z (k + 2)) (z (k + 3)) (z (k + 4))).1)]) (hG1) rfl lL_58 (by first | assumption | rfl | decide) rfl ⟨rfl, by decide, by decide, by decide, rfl, rfl⟩ ?_
  refine tf_go hx ftL_case8 1 [true] 1302 [some (.ref 3), some (.ref 4), some (.ref 125), some (.int (nI k))] [] Y1 rfl ⟨by decide, by decide, rfl⟩ ⟨trivial, rfl⟩ ?_
  refine tf_go hx ftL_case8 2 [] 18 [some (.ref 3), some (.ref 4), some (.ref 125), some (.int ((nI k) + 5))] [] Y1 rfl ⟨by decide, by decide, rfl⟩ trivial ?_
  rw [show ((nI k) + 5) = nI (k + 5) from (tf_add (a := k) (b := 5) rfl (rfl : (5 : Int32) = nI 5))]
  have hz2 : ∀ j, Y1 3 j = z j := fun j => by rw [fm_le hg1 3 (by omega)]; exact hz1 j
  exact ih Y1 (s_gap A (z (k + 1)) (z (k + 2)) (z (k + 3)) (z (k + 4))).2 (ok_gap (z (k + 1)) (z (k + 2)) (z (k + 3)) (z (k + 4)) hA) (cs_fm (ok_gap (z (k + 1)) (z (k + 2)) (z (k + 3)) (z (k + 4)) hA) hc1 hg1) hm1 hz2

set_option maxHeartbeats 2000000 in
theorem law_c9 {N k : Nat} {z : Nat → Int32} {x : tf_X} {Y : tf_Sg} {A : tf_A} (hx : tf_C x cL_law RL 4 9 200 5000 false) (hN : N ≤ 320) (hk : k + 5 ≤ N) (hA : tf_okA A) (hC : tf_cs Y A) (hM : tf_ms (tf_GG N) Y 125 A) (hz : ∀ j, Y 3 j = z j) (ih : ∀ (Y : tf_Sg) (A : tf_A), tf_okA A → tf_cs Y A → tf_ms (tf_GG N) Y 125 A → (∀ j, Y 3 j = z j) → tf_K x 200 5000 (tf_GG N) Y 18 [some (.ref 3), some (.ref 4), some (.ref 125), some (.int (nI (k + 5)))] []) : tf_K x 200 5000 (tf_GG N) Y 525 [some (.ref 3), some (.ref 4), some (.ref 125), some (.int (nI k))] [] := by
  have i1 : vp_in (nI (k + 1)) (tf_ln (tf_GG N) 3) := tf_in (n := k + 1) (N := N) rfl rfl (by omega) (by omega)
  have i2 : vp_in (nI (k + 2)) (tf_ln (tf_GG N) 3) := tf_in (n := k + 2) (N := N) rfl rfl (by omega) (by omega)
  have i3 : vp_in (nI (k + 3)) (tf_ln (tf_GG N) 3) := tf_in (n := k + 3) (N := N) rfl rfl (by omega) (by omega)
  have i4 : vp_in (nI (k + 4)) (tf_ln (tf_GG N) 3) := tf_in (n := k + 4) (N := N) rfl rfl (by omega) (by omega)
  by_cases zb : z (k + 1) = 0
  · refine tf_go hx ftL_case9 1 [] 526 [some (.ref 3), some (.ref 4), some (.ref 125), some (.int (nI k))] [.ref 4] Y rfl ⟨by decide, by decide, rfl⟩ trivial ?_
    refine tf_go hx ftL_case9 4 [] 530 [some (.ref 3), some (.ref 4), some (.ref 125), some (.int (nI k))] [.int ((nI k) + 1), .ref 3, .ref 4] Y rfl ⟨by decide, by decide, rfl⟩ trivial ?_
    rw [show ((nI k) + 1) = nI (k + 1) from (tf_add (a := k) (b := 1) rfl (rfl : (1 : Int32) = nI 1))]
    refine tf_go hx ftL_case9 1 [] 531 [some (.ref 3), some (.ref 4), some (.ref 125), some (.int (nI k))] [.int (Y 3 (Int32.toNatClampNeg (nI (k + 1)))), .ref 4] Y rfl ⟨by decide, by decide, rfl⟩ ⟨trivial, ⟨Or.inr (by first | assumption | rfl | decide | omega | exact Nat.succ_ne_zero _), by first | assumption | exact tf_in (n := (k + 1)) rfl (by first | assumption | rfl) (by omega) (by decide)⟩⟩ ?_
    rw [show (Y 3 (Int32.toNatClampNeg (nI (k + 1)))) = (z (k + 1)) from (by rw [tf_cl_nI (by omega)]; exact hz (k + 1))]
    refine tf_go hx ftL_case9 1 [true] 538 [some (.ref 3), some (.ref 4), some (.ref 125), some (.int (nI k))] [.ref 4] Y rfl ⟨by decide, by decide, rfl⟩ ⟨trivial, zb⟩ ?_
    refine tf_go hx ftL_case9 1 [] 539 [some (.ref 3), some (.ref 4), some (.ref 125), some (.int (nI k))] [.int 0, .ref 4] Y rfl ⟨by decide, by decide, rfl⟩ trivial ?_
    refine tf_go hx ftL_case9 4 [] 543 [some (.ref 3), some (.ref 4), some (.ref 125), some (.int (nI k))] [.int ((nI k) + 2), .ref 3, .int 0, .ref 4] Y rfl ⟨by decide, by decide, rfl⟩ trivial ?_
    rw [show ((nI k) + 2) = nI (k + 2) from (tf_add (a := k) (b := 2) rfl (rfl : (2 : Int32) = nI 2))]
    refine tf_go hx ftL_case9 1 [] 544 [some (.ref 3), some (.ref 4), some (.ref 125), some (.int (nI k))] [.int (Y 3 (Int32.toNatClampNeg (nI (k + 2)))), .int 0, .ref 4] Y rfl ⟨by decide, by decide, rfl⟩ ⟨trivial, ⟨Or.inr (by first | assumption | rfl | decide | omega | exact Nat.succ_ne_zero _), by first | assumption | exact tf_in (n := (k + 2)) rfl (by first | assumption | rfl) (by omega) (by decide)⟩⟩ ?_
    rw [show (Y 3 (Int32.toNatClampNeg (nI (k + 2)))) = (z (k + 2)) from (by rw [tf_cl_nI (by omega)]; exact hz (k + 2))]
    obtain ⟨X1, hF1, hc1, hf1⟩ := c_sign (N := N) (S := Y) 0 (z (k + 2)) hA hC (by decide)
    refine tf_cV hx ftL_case9 (nx := 547) (As := [.int 0, .int (z (k + 2))]) (rest := []) (st2 := [.int ((s_sign A 0 (z (k + 2))).1)]) (hF1) rfl lL_59 (by first | assumption | rfl | decide) rfl ⟨rfl, by decide, by decide, by decide, rfl, rfl⟩ ?_
    have hz1 : ∀ j, X1 3 j = z j := fun j => by rw [hf1 3 (by omega)]; exact hz j
    obtain ⟨Y1, hG1, hm1, hg1⟩ := p_sign (G := (tf_GG N)) (S := X1) (o := 125) 0 (z (k + 2)) mdG.1 mdG.2 hA (ms_fc hM hf1) (by decide)
    refine tf_go hx ftL_case9 1 [] 548 [some (.ref 3), some (.ref 4), some (.ref 125), some (.int (nI k))] [.ref 125, .int ((s_sign A 0 (z (k + 2))).1)] X1 rfl ⟨by decide, by decide, rfl⟩ trivial ?_
    refine tf_go hx ftL_case9 4 [] 552 [some (.ref 3), some (.ref 4), some (.ref 125), some (.int (nI k))] [.int ((nI k) + 1), .ref 3, .ref 125, .int ((s_sign A 0 (z (k + 2))).1)] X1 rfl ⟨by decide, by decide, rfl⟩ trivial ?_
    rw [show ((nI k) + 1) = nI (k + 1) from (tf_add (a := k) (b := 1) rfl (rfl : (1 : Int32) = nI 1))]
    refine tf_go hx ftL_case9 1 [] 553 [some (.ref 3), some (.ref 4), some (.ref 125), some (.int (nI k))] [.int (X1 3 (Int32.toNatClampNeg (nI (k + 1)))), .ref 125, .int ((s_sign A 0 (z (k + 2))).1)] X1 rfl ⟨by decide, by decide, rfl⟩ ⟨trivial, ⟨Or.inr (by first | assumption | rfl | decide | omega | exact Nat.succ_ne_zero _), by first | assumption | exact tf_in (n := (k + 1)) rfl (by first | assumption | rfl) (by omega) (by decide)⟩⟩ ?_
    rw [show (X1 3 (Int32.toNatClampNeg (nI (k + 1)))) = (z (k + 1)) from (by rw [tf_cl_nI (by omega)]; exact hz1 (k + 1))]
    refine tf_go hx ftL_case9 1 [true] 560 [some (.ref 3), some (.ref 4), some (.ref 125), some (.int (nI k))] [.ref 125, .int ((s_sign A 0 (z (k + 2))).1)] X1 rfl ⟨by decide, by decide, rfl⟩ ⟨trivial, zb⟩ ?_
    refine tf_go hx ftL_case9 1 [] 561 [some (.ref 3), some (.ref 4), some (.ref 125), some (.int (nI k))] [.int 0, .ref 125, .int ((s_sign A 0 (z (k + 2))).1)] X1 rfl ⟨by decide, by decide, rfl⟩ trivial ?_
    refine tf_go hx ftL_case9 4 [] 565 [some (.ref 3), some (.ref 4), some (.ref 125), some (.int (nI k))] [.int ((nI k) + 2), .ref 3, .int 0, .ref 125, .int ((s_sign A 0 (z (k + 2))).1)] X1 rfl ⟨by decide, by decide, rfl⟩ trivial ?_
    rw [show ((nI k) + 2) = nI (k + 2) from (tf_add (a := k) (b := 2) rfl (rfl : (2 : Int32) = nI 2))]
    refine tf_go hx ftL_case9 1 [] 566 [some (.ref 3), some (.ref 4), some (.ref 125), some (.int (nI k))] [.int (X1 3 (Int32.toNatClampNeg (nI (k + 2)))), .int 0, .ref 125, .int ((s_sign A 0 (z (k + 2))).1)] X1 rfl ⟨by decide, by decide, rfl⟩ ⟨trivial, ⟨Or.inr (by first | assumption | rfl | decide | omega | exact Nat.succ_ne_zero _), by first | assumption | exact tf_in (n := (k + 2)) rfl (by first | assumption | rfl) (by omega) (by decide)⟩⟩ ?_
    rw [show (X1 3 (Int32.toNatClampNeg (nI (k + 2)))) = (z (k + 2)) from (by rw [tf_cl_nI (by omega)]; exact hz1 (k + 2))]
    refine tf_cV hx ftL_case9 (nx := 569) (As := [.int 0, .int (z (k + 2))]) (rest := [.int ((s_sign A 0 (z (k + 2))).1)]) (st2 := [.int ((s_sign A 0 (z (k + 2))).1), .int ((s_sign A 0 (z (k + 2))).1)]) (hG1) rfl lL_63 (by first | assumption | rfl | decide) rfl ⟨rfl, by decide, by decide, by decide, rfl, rfl⟩ ?_
    refine tf_go hx ftL_case9 1 [true] 1302 [some (.ref 3), some (.ref 4), some (.ref 125), some (.int (nI k))] [] Y1 rfl ⟨by decide, by decide, rfl⟩ ⟨trivial, rfl⟩ ?_
    refine tf_go hx ftL_case9 2 [] 18 [some (.ref 3), some (.ref 4), some (.ref 125), some (.int ((nI k) + 5))] [] Y1 rfl ⟨by decide, by decide, rfl⟩ trivial ?_
    rw [show ((nI k) + 5) = nI (k + 5) from (tf_add (a := k) (b := 5) rfl (rfl : (5 : Int32) = nI 5))]
    have hz2 : ∀ j, Y1 3 j = z j := fun j => by rw [fm_le hg1 3 (by omega)]; exact hz1 j
    exact ih Y1 (s_sign A 0 (z (k + 2))).2 (ok_sign 0 (z (k + 2)) hA) (cs_fm (ok_sign 0 (z (k + 2)) hA) hc1 hg1) hm1 hz2
  · refine tf_go hx ftL_case9 1 [] 526 [some (.ref 3), some (.ref 4), some (.ref 125), some (.int (nI k))] [.ref 4] Y rfl ⟨by decide, by decide, rfl⟩ trivial ?_
    refine tf_go hx ftL_case9 4 [] 530 [some (.ref 3), some (.ref 4), some (.ref 125), some (.int (nI k))] [.int ((nI k) + 1), .ref 3, .ref 4] Y rfl ⟨by decide, by decide, rfl⟩ trivial ?_
    rw [show ((nI k) + 1) = nI (k + 1) from (tf_add (a := k) (b := 1) rfl (rfl : (1 : Int32) = nI 1))]
    refine tf_go hx ftL_case9 1 [] 531 [some (.ref 3), some (.ref 4), some (.ref 125), some (.int (nI k))] [.int (Y 3 (Int32.toNatClampNeg (nI (k + 1)))), .ref 4] Y rfl ⟨by decide, by decide, rfl⟩ ⟨trivial, ⟨Or.inr (by first | assumption | rfl | decide | omega | exact Nat.succ_ne_zero _), by first | assumption | exact tf_in (n := (k + 1)) rfl (by first | assumption | rfl) (by omega) (by decide)⟩⟩ ?_
    rw [show (Y 3 (Int32.toNatClampNeg (nI (k + 1)))) = (z (k + 1)) from (by rw [tf_cl_nI (by omega)]; exact hz (k + 1))]
    refine tf_go hx ftL_case9 1 [false] 534 [some (.ref 3), some (.ref 4), some (.ref 125), some (.int (nI k))] [.ref 4] Y rfl ⟨by decide, by decide, rfl⟩ ⟨trivial, zb⟩ ?_
    refine tf_go hx ftL_case9 2 [] 539 [some (.ref 3), some (.ref 4), some (.ref 125), some (.int (nI k))] [.int 1, .ref 4] Y rfl ⟨by decide, by decide, rfl⟩ trivial ?_
    refine tf_go hx ftL_case9 4 [] 543 [some (.ref 3), some (.ref 4), some (.ref 125), some (.int (nI k))] [.int ((nI k) + 2), .ref 3, .int 1, .ref 4] Y rfl ⟨by decide, by decide, rfl⟩ trivial ?_
    rw [show ((nI k) + 2) = nI (k + 2) from (tf_add (a := k) (b := 2) rfl (rfl : (2 : Int32) = nI 2))]
    refine tf_go hx ftL_case9 1 [] 544 [some (.ref 3), some (.ref 4), some (.ref 125), some (.int (nI k))] [.int (Y 3 (Int32.toNatClampNeg (nI (k + 2)))), .int 1, .ref 4] Y rfl ⟨by decide, by decide, rfl⟩ ⟨trivial, ⟨Or.inr (by first | assumption | rfl | decide | omega | exact Nat.succ_ne_zero _), by first | assumption | exact tf_in (n := (k + 2)) rfl (by first | assumption | rfl) (by omega) (by decide)⟩⟩ ?_
    rw [show (Y 3 (Int32.toNatClampNeg (nI (k + 2)))) = (z (k + 2)) from (by rw [tf_cl_nI (by omega)]; exact hz (k + 2))]
    obtain ⟨X1, hF1, hc1, hf1⟩ := c_sign (N := N) (S := Y) 1 (z (k + 2)) hA hC (by decide)
    refine tf_cV hx ftL_case9 (nx := 547) (As := [.int 1, .int (z (k + 2))]) (rest := []) (st2 := [.int ((s_sign A 1 (z (k + 2))).1)]) (hF1) rfl lL_59 (by first | assumption | rfl | decide) rfl ⟨rfl, by decide, by decide, by decide, rfl, rfl⟩ ?_
    have hz1 : ∀ j, X1 3 j = z j := fun j => by rw [hf1 3 (by omega)]; exact hz j
    obtain ⟨Y1, hG1, hm1, hg1⟩ := p_sign (G := (tf_GG N)) (S := X1) (o := 125) 1 (z (k + 2)) mdG.1 mdG.2 hA (ms_fc hM hf1) (by decide)
    refine tf_go hx ftL_case9 1 [] 548 [some (.ref 3), some (.ref 4), some (.ref 125), some (.int (nI k))] [.ref 125, .int ((s_sign A 1 (z (k + 2))).1)] X1 rfl ⟨by decide, by decide, rfl⟩ trivial ?_
    refine tf_go hx ftL_case9 4 [] 552 [some (.ref 3), some (.ref 4), some (.ref 125), some (.int (nI k))] [.int ((nI k) + 1), .ref 3, .ref 125, .int ((s_sign A 1 (z (k + 2))).1)] X1 rfl ⟨by decide, by decide, rfl⟩ trivial ?_
    rw [show ((nI k) + 1) = nI (k + 1) from (tf_add (a := k) (b := 1) rfl (rfl : (1 : Int32) = nI 1))]
    refine tf_go hx ftL_case9 1 [] 553 [some (.ref 3), some (.ref 4), some (.ref 125), some (.int (nI k))] [.int (X1 3 (Int32.toNatClampNeg (nI (k + 1)))), .ref 125, .int ((s_sign A 1 (z (k + 2))).1)] X1 rfl ⟨by decide, by decide, rfl⟩ ⟨trivial, ⟨Or.inr (by first | assumption | rfl | decide | omega | exact Nat.succ_ne_zero _), by first | assumption | exact tf_in (n := (k + 1)) rfl (by first | assumption | rfl) (by omega) (by decide)⟩⟩ ?_
    rw [show (X1 3 (Int32.toNatClampNeg (nI (k + 1)))) = (z (k + 1)) from (by rw [tf_cl_nI (by omega)]; exact hz1 (k + 1))]
    refine tf_go hx ftL_case9 1 [false] 556 [some (.ref 3), some (.ref 4), some (.ref 125), some (.int (nI k))] [.ref 125, .int ((s_sign A 1 (z (k + 2))).1)] X1 rfl ⟨by decide, by decide, rfl⟩ ⟨trivial, zb⟩ ?_
    refine tf_go hx ftL_case9 2 [] 561 [some (.ref 3), some (.ref 4), some (.ref 125), some (.int (nI k))] [.int 1, .ref 125, .int ((s_sign A 1 (z (k + 2))).1)] X1 rfl ⟨by decide, by decide, rfl⟩ trivial ?_
    refine tf_go hx ftL_case9 4 [] 565 [some (.ref 3), some (.ref 4), some (.ref 125), some (.int (nI k))] [.int ((nI k) + 2), .ref 3, .int 1, .ref 125, .int ((s_sign A 1 (z (k + 2))).1)] X1 rfl ⟨by decide, by decide, rfl⟩ trivial ?_
    rw [show ((nI k) + 2) = nI (k + 2) from (tf_add (a := k) (b := 2) rfl (rfl : (2 : Int32) = nI 2))]
    refine tf_go hx ftL_case9 1 [] 566 [some (.ref 3), some (.ref 4), some (.ref 125), some (.int (nI k))] [.int (X1 3 (Int32.toNatClampNeg (nI (k + 2)))), .int 1, .ref 125, .int ((s_sign A 1 (z (k + 2))).1)] X1 rfl ⟨by decide, by decide, rfl⟩ ⟨trivial, ⟨Or.inr (by first | assumption | rfl | decide | omega | exact Nat.succ_ne_zero _), by first | assumption | exact tf_in (n := (k + 2)) rfl (by first | assumption | rfl) (by omega) (by decide)⟩⟩ ?_
    rw [show (X1 3 (Int32.toNatClampNeg (nI (k + 2)))) = (z (k + 2)) from (by rw [tf_cl_nI (by omega)]; exact hz1 (k + 2))]
    refine tf_cV hx ftL_case9 (nx := 569) (As := [.int 1, .int (z (k + 2))]) (rest := [.int ((s_sign A 1 (z (k + 2))).1)]) (st2 := [.int ((s_sign A 1 (z (k + 2))).1), .int ((s_sign A 1 (z (k + 2))).1)]) (hG1) rfl lL_63 (by first | assumption | rfl | decide) rfl ⟨rfl, by decide, by decide, by decide, rfl, rfl⟩ ?_
    refine tf_go hx ftL_case9 1 [true] 1302 [some (.ref 3), some (.ref 4), some (.ref 125), some (.int (nI k))] [] Y1 rfl ⟨by decide, by decide, rfl⟩ ⟨trivial, rfl⟩ ?_
    refine tf_go hx ftL_case9 2 [] 18 [some (.ref 3), some (.ref 4), some (.ref 125), some (.int ((nI k) + 5))] [] Y1 rfl ⟨by decide, by decide, rfl⟩ trivial ?_
    rw [show ((nI k) + 5) = nI (k + 5) from (tf_add (a := k) (b := 5) rfl (rfl : (5 : Int32) = nI 5))]
    have hz2 : ∀ j, Y1 3 j = z j := fun j => by rw [fm_le hg1 3 (by omega)]; exact hz1 j
    exact ih Y1 (s_sign A 1 (z (k + 2))).2 (ok_sign 1 (z (k + 2)) hA) (cs_fm (ok_sign 1 (z (k + 2)) hA) hc1 hg1) hm1 hz2

set_option maxHeartbeats 2000000 in
theorem law_c10 {N k : Nat} {z : Nat → Int32} {x : tf_X} {Y : tf_Sg} {A : tf_A} (hx : tf_C x cL_law RL 4 9 200 5000 false) (hN : N ≤ 320) (hk : k + 5 ≤ N) (hA : tf_okA A) (hC : tf_cs Y A) (hM : tf_ms (tf_GG N) Y 125 A) (hz : ∀ j, Y 3 j = z j) (ih : ∀ (Y : tf_Sg) (A : tf_A), tf_okA A → tf_cs Y A → tf_ms (tf_GG N) Y 125 A → (∀ j, Y 3 j = z j) → tf_K x 200 5000 (tf_GG N) Y 18 [some (.ref 3), some (.ref 4), some (.ref 125), some (.int (nI (k + 5)))] []) : tf_K x 200 5000 (tf_GG N) Y 574 [some (.ref 3), some (.ref 4), some (.ref 125), some (.int (nI k))] [] := by
  have i1 : vp_in (nI (k + 1)) (tf_ln (tf_GG N) 3) := tf_in (n := k + 1) (N := N) rfl rfl (by omega) (by omega)
  have i2 : vp_in (nI (k + 2)) (tf_ln (tf_GG N) 3) := tf_in (n := k + 2) (N := N) rfl rfl (by omega) (by omega)
  have i3 : vp_in (nI (k + 3)) (tf_ln (tf_GG N) 3) := tf_in (n := k + 3) (N := N) rfl rfl (by omega) (by omega)
  have i4 : vp_in (nI (k + 4)) (tf_ln (tf_GG N) 3) := tf_in (n := k + 4) (N := N) rfl rfl (by omega) (by omega)
  refine tf_go hx ftL_case10 1 [] 575 [some (.ref 3), some (.ref 4), some (.ref 125), some (.int (nI k))] [.ref 4] Y rfl ⟨by decide, by decide, rfl⟩ trivial ?_
  refine tf_go hx ftL_case10 4 [] 579 [some (.ref 3), some (.ref 4), some (.ref 125), some (.int (nI k))] [.int ((nI k) + 1), .ref 3, .ref 4] Y rfl ⟨by decide, by decide, rfl⟩ trivial ?_
  rw [show ((nI k) + 1) = nI (k + 1) from (tf_add (a := k) (b := 1) rfl (rfl : (1 : Int32) = nI 1))]
  refine tf_go hx ftL_case10 1 [] 580 [some (.ref 3), some (.ref 4), some (.ref 125), some (.int (nI k))] [.int (Y 3 (Int32.toNatClampNeg (nI (k + 1)))), .ref 4] Y rfl ⟨by decide, by decide, rfl⟩ ⟨trivial, ⟨Or.inr (by first | assumption | rfl | decide | omega | exact Nat.succ_ne_zero _), by first | assumption | exact tf_in (n := (k + 1)) rfl (by first | assumption | rfl) (by omega) (by decide)⟩⟩ ?_
  rw [show (Y 3 (Int32.toNatClampNeg (nI (k + 1)))) = (z (k + 1)) from (by rw [tf_cl_nI (by omega)]; exact hz (k + 1))]
  refine tf_go hx ftL_case10 4 [] 584 [some (.ref 3), some (.ref 4), some (.ref 125), some (.int (nI k))] [.int ((nI k) + 2), .ref 3, .int (z (k + 1)), .ref 4] Y rfl ⟨by decide, by decide, rfl⟩ trivial ?_
  rw [show ((nI k) + 2) = nI (k + 2) from (tf_add (a := k) (b := 2) rfl (rfl : (2 : Int32) = nI 2))]
  refine tf_go hx ftL_case10 1 [] 585 [some (.ref 3), some (.ref 4), some (.ref 125), some (.int (nI k))] [.int (Y 3 (Int32.toNatClampNeg (nI (k + 2)))), .int (z (k + 1)), .ref 4] Y rfl ⟨by decide, by decide, rfl⟩ ⟨trivial, ⟨Or.inr (by first | assumption | rfl | decide | omega | exact Nat.succ_ne_zero _), by first | assumption | exact tf_in (n := (k + 2)) rfl (by first | assumption | rfl) (by omega) (by decide)⟩⟩ ?_
  rw [show (Y 3 (Int32.toNatClampNeg (nI (k + 2)))) = (z (k + 2)) from (by rw [tf_cl_nI (by omega)]; exact hz (k + 2))]
  obtain ⟨X1, hF1, hc1, hf1⟩ := c_practise (N := N) (S := Y) (z (k + 1)) (z (k + 2)) hA hC
  refine tf_cV hx ftL_case10 (nx := 588) (As := [.int (z (k + 1)), .int (z (k + 2))]) (rest := []) (st2 := [.int ((s_practise A (z (k + 1)) (z (k + 2))).1)]) (hF1) rfl lL_64 (by first | assumption | rfl | decide) rfl ⟨rfl, by decide, by decide, by decide, rfl, rfl⟩ ?_
  have hz1 : ∀ j, X1 3 j = z j := fun j => by rw [hf1 3 (by omega)]; exact hz j
  obtain ⟨Y1, hG1, hm1, hg1⟩ := p_practise (G := (tf_GG N)) (S := X1) (o := 125) (z (k + 1)) (z (k + 2)) mdG.1 mdG.2 hA (ms_fc hM hf1)
  refine tf_go hx ftL_case10 1 [] 589 [some (.ref 3), some (.ref 4), some (.ref 125), some (.int (nI k))] [.ref 125, .int ((s_practise A (z (k + 1)) (z (k + 2))).1)] X1 rfl ⟨by decide, by decide, rfl⟩ trivial ?_
  refine tf_go hx ftL_case10 4 [] 593 [some (.ref 3), some (.ref 4), some (.ref 125), some (.int (nI k))] [.int ((nI k) + 1), .ref 3, .ref 125, .int ((s_practise A (z (k + 1)) (z (k + 2))).1)] X1 rfl ⟨by decide, by decide, rfl⟩ trivial ?_
  rw [show ((nI k) + 1) = nI (k + 1) from (tf_add (a := k) (b := 1) rfl (rfl : (1 : Int32) = nI 1))]
  refine tf_go hx ftL_case10 1 [] 594 [some (.ref 3), some (.ref 4), some (.ref 125), some (.int (nI k))] [.int (X1 3 (Int32.toNatClampNeg (nI (k + 1)))), .ref 125, .int ((s_practise A (z (k + 1)) (z (k + 2))).1)] X1 rfl ⟨by decide, by decide, rfl⟩ ⟨trivial, ⟨Or.inr (by first | assumption | rfl | decide | omega | exact Nat.succ_ne_zero _), by first | assumption | exact tf_in (n := (k + 1)) rfl (by first | assumption | rfl) (by omega) (by decide)⟩⟩ ?_
  rw [show (X1 3 (Int32.toNatClampNeg (nI (k + 1)))) = (z (k + 1)) from (by rw [tf_cl_nI (by omega)]; exact hz1 (k + 1))]
  refine tf_go hx ftL_case10 4 [] 598 [some (.ref 3), some (.ref 4), some (.ref 125), some (.int (nI k))] [.int ((nI k) + 2), .ref 3, .int (z (k + 1)), .ref 125, .int ((s_practise A (z (k + 1)) (z (k + 2))).1)] X1 rfl ⟨by decide, by decide, rfl⟩ trivial ?_
  rw [show ((nI k) + 2) = nI (k + 2) from (tf_add (a := k) (b := 2) rfl (rfl : (2 : Int32) = nI 2))]
  refine tf_go hx ftL_case10 1 [] 599 [some (.ref 3), some (.ref 4), some (.ref 125), some (.int (nI k))] [.int (X1 3 (Int32.toNatClampNeg (nI (k + 2)))), .int (z (k + 1)), .ref 125, .int ((s_practise A (z (k + 1)) (z (k + 2))).1)] X1 rfl ⟨by decide, by decide, rfl⟩ ⟨trivial, ⟨Or.inr (by first | assumption | rfl | decide | omega | exact Nat.succ_ne_zero _), by first | assumption | exact tf_in (n := (k + 2)) rfl (by first | assumption | rfl) (by omega) (by decide)⟩⟩ ?_
  rw [show (X1 3 (Int32.toNatClampNeg (nI (k + 2)))) = (z (k + 2)) from (by rw [tf_cl_nI (by omega)]; exact hz1 (k + 2))]
  refine tf_cV hx ftL_case10 (nx := 602) (As := [.int (z (k + 1)), .int (z (k + 2))]) (rest := [.int ((s_practise A (z (k + 1)) (z (k + 2))).1)]) (st2 := [.int ((s_practise A (z (k + 1)) (z (k + 2))).1), .int ((s_practise A (z (k + 1)) (z (k + 2))).1)]) (hG1) rfl lL_67 (by first | assumption | rfl | decide) rfl ⟨rfl, by decide, by decide, by decide, rfl, rfl⟩ ?_
  refine tf_go hx ftL_case10 1 [true] 1302 [some (.ref 3), some (.ref 4), some (.ref 125), some (.int (nI k))] [] Y1 rfl ⟨by decide, by decide, rfl⟩ ⟨trivial, rfl⟩ ?_
  refine tf_go hx ftL_case10 2 [] 18 [some (.ref 3), some (.ref 4), some (.ref 125), some (.int ((nI k) + 5))] [] Y1 rfl ⟨by decide, by decide, rfl⟩ trivial ?_
  rw [show ((nI k) + 5) = nI (k + 5) from (tf_add (a := k) (b := 5) rfl (rfl : (5 : Int32) = nI 5))]
  have hz2 : ∀ j, Y1 3 j = z j := fun j => by rw [fm_le hg1 3 (by omega)]; exact hz1 j
  exact ih Y1 (s_practise A (z (k + 1)) (z (k + 2))).2 (ok_practise (z (k + 1)) (z (k + 2)) hA) (cs_fm (ok_practise (z (k + 1)) (z (k + 2)) hA) hc1 hg1) hm1 hz2

set_option maxHeartbeats 2000000 in
theorem law_c11 {N k : Nat} {z : Nat → Int32} {x : tf_X} {Y : tf_Sg} {A : tf_A} (hx : tf_C x cL_law RL 4 9 200 5000 false) (hN : N ≤ 320) (hk : k + 5 ≤ N) (hA : tf_okA A) (hC : tf_cs Y A) (hM : tf_ms (tf_GG N) Y 125 A) (hz : ∀ j, Y 3 j = z j) (ih : ∀ (Y : tf_Sg) (A : tf_A), tf_okA A → tf_cs Y A → tf_ms (tf_GG N) Y 125 A → (∀ j, Y 3 j = z j) → tf_K x 200 5000 (tf_GG N) Y 18 [some (.ref 3), some (.ref 4), some (.ref 125), some (.int (nI (k + 5)))] []) : tf_K x 200 5000 (tf_GG N) Y 607 [some (.ref 3), some (.ref 4), some (.ref 125), some (.int (nI k))] [] := by
  have i1 : vp_in (nI (k + 1)) (tf_ln (tf_GG N) 3) := tf_in (n := k + 1) (N := N) rfl rfl (by omega) (by omega)
  have i2 : vp_in (nI (k + 2)) (tf_ln (tf_GG N) 3) := tf_in (n := k + 2) (N := N) rfl rfl (by omega) (by omega)
  have i3 : vp_in (nI (k + 3)) (tf_ln (tf_GG N) 3) := tf_in (n := k + 3) (N := N) rfl rfl (by omega) (by omega)
  have i4 : vp_in (nI (k + 4)) (tf_ln (tf_GG N) 3) := tf_in (n := k + 4) (N := N) rfl rfl (by omega) (by omega)
  refine tf_go hx ftL_case11 1 [] 608 [some (.ref 3), some (.ref 4), some (.ref 125), some (.int (nI k))] [.ref 4] Y rfl ⟨by decide, by decide, rfl⟩ trivial ?_
  refine tf_go hx ftL_case11 4 [] 612 [some (.ref 3), some (.ref 4), some (.ref 125), some (.int (nI k))] [.int ((nI k) + 1), .ref 3, .ref 4] Y rfl ⟨by decide, by decide, rfl⟩ trivial ?_
  rw [show ((nI k) + 1) = nI (k + 1) from (tf_add (a := k) (b := 1) rfl (rfl : (1 : Int32) = nI 1))]
  refine tf_go hx ftL_case11 1 [] 613 [some (.ref 3), some (.ref 4), some (.ref 125), some (.int (nI k))] [.int (Y 3 (Int32.toNatClampNeg (nI (k + 1)))), .ref 4] Y rfl ⟨by decide, by decide, rfl⟩ ⟨trivial, ⟨Or.inr (by first | assumption | rfl | decide | omega | exact Nat.succ_ne_zero _), by first | assumption | exact tf_in (n := (k + 1)) rfl (by first | assumption | rfl) (by omega) (by decide)⟩⟩ ?_
  rw [show (Y 3 (Int32.toNatClampNeg (nI (k + 1)))) = (z (k + 1)) from (by rw [tf_cl_nI (by omega)]; exact hz (k + 1))]
  refine tf_go hx ftL_case11 4 [] 617 [some (.ref 3), some (.ref 4), some (.ref 125), some (.int (nI k))] [.int ((nI k) + 2), .ref 3, .int (z (k + 1)), .ref 4] Y rfl ⟨by decide, by decide, rfl⟩ trivial ?_
  rw [show ((nI k) + 2) = nI (k + 2) from (tf_add (a := k) (b := 2) rfl (rfl : (2 : Int32) = nI 2))]
  refine tf_go hx ftL_case11 1 [] 618 [some (.ref 3), some (.ref 4), some (.ref 125), some (.int (nI k))] [.int (Y 3 (Int32.toNatClampNeg (nI (k + 2)))), .int (z (k + 1)), .ref 4] Y rfl ⟨by decide, by decide, rfl⟩ ⟨trivial, ⟨Or.inr (by first | assumption | rfl | decide | omega | exact Nat.succ_ne_zero _), by first | assumption | exact tf_in (n := (k + 2)) rfl (by first | assumption | rfl) (by omega) (by decide)⟩⟩ ?_
  rw [show (Y 3 (Int32.toNatClampNeg (nI (k + 2)))) = (z (k + 2)) from (by rw [tf_cl_nI (by omega)]; exact hz (k + 2))]
  obtain ⟨X1, hF1, hc1, hf1⟩ := c_piece (N := N) (S := Y) (z (k + 1)) (z (k + 2)) hA hC
  refine tf_cV hx ftL_case11 (nx := 621) (As := [.int (z (k + 1)), .int (z (k + 2))]) (rest := []) (st2 := [.int ((s_piece A (z (k + 1)) (z (k + 2))).1)]) (hF1) rfl lL_68 (by first | assumption | rfl | decide) rfl ⟨rfl, by decide, by decide, by decide, rfl, rfl⟩ ?_
  have hz1 : ∀ j, X1 3 j = z j := fun j => by rw [hf1 3 (by omega)]; exact hz j
  obtain ⟨Y1, hG1, hm1, hg1⟩ := p_piece (G := (tf_GG N)) (S := X1) (o := 125) (z (k + 1)) (z (k + 2)) mdG.1 mdG.2 hA (ms_fc hM hf1)
  refine tf_go hx ftL_case11 1 [] 622 [some (.ref 3), some (.ref 4), some (.ref 125), some (.int (nI k))] [.ref 125, .int ((s_piece A (z (k + 1)) (z (k + 2))).1)] X1 rfl ⟨by decide, by decide, rfl⟩ trivial ?_
  refine tf_go hx ftL_case11 4 [] 626 [some (.ref 3), some (.ref 4), some (.ref 125), some (.int (nI k))] [.int ((nI k) + 1), .ref 3, .ref 125, .int ((s_piece A (z (k + 1)) (z (k + 2))).1)] X1 rfl ⟨by decide, by decide, rfl⟩ trivial ?_
  rw [show ((nI k) + 1) = nI (k + 1) from (tf_add (a := k) (b := 1) rfl (rfl : (1 : Int32) = nI 1))]
  refine tf_go hx ftL_case11 1 [] 627 [some (.ref 3), some (.ref 4), some (.ref 125), some (.int (nI k))] [.int (X1 3 (Int32.toNatClampNeg (nI (k + 1)))), .ref 125, .int ((s_piece A (z (k + 1)) (z (k + 2))).1)] X1 rfl ⟨by decide, by decide, rfl⟩ ⟨trivial, ⟨Or.inr (by first | assumption | rfl | decide | omega | exact Nat.succ_ne_zero _), by first | assumption | exact tf_in (n := (k + 1)) rfl (by first | assumption | rfl) (by omega) (by decide)⟩⟩ ?_
  rw [show (X1 3 (Int32.toNatClampNeg (nI (k + 1)))) = (z (k + 1)) from (by rw [tf_cl_nI (by omega)]; exact hz1 (k + 1))]
  refine tf_go hx ftL_case11 4 [] 631 [some (.ref 3), some (.ref 4), some (.ref 125), some (.int (nI k))] [.int ((nI k) + 2), .ref 3, .int (z (k + 1)), .ref 125, .int ((s_piece A (z (k + 1)) (z (k + 2))).1)] X1 rfl ⟨by decide, by decide, rfl⟩ trivial ?_
  rw [show ((nI k) + 2) = nI (k + 2) from (tf_add (a := k) (b := 2) rfl (rfl : (2 : Int32) = nI 2))]
  refine tf_go hx ftL_case11 1 [] 632 [some (.ref 3), some (.ref 4), some (.ref 125), some (.int (nI k))] [.int (X1 3 (Int32.toNatClampNeg (nI (k + 2)))), .int (z (k + 1)), .ref 125, .int ((s_piece A (z (k + 1)) (z (k + 2))).1)] X1 rfl ⟨by decide, by decide, rfl⟩ ⟨trivial, ⟨Or.inr (by first | assumption | rfl | decide | omega | exact Nat.succ_ne_zero _), by first | assumption | exact tf_in (n := (k + 2)) rfl (by first | assumption | rfl) (by omega) (by decide)⟩⟩ ?_
  rw [show (X1 3 (Int32.toNatClampNeg (nI (k + 2)))) = (z (k + 2)) from (by rw [tf_cl_nI (by omega)]; exact hz1 (k + 2))]
  refine tf_cV hx ftL_case11 (nx := 635) (As := [.int (z (k + 1)), .int (z (k + 2))]) (rest := [.int ((s_piece A (z (k + 1)) (z (k + 2))).1)]) (st2 := [.int ((s_piece A (z (k + 1)) (z (k + 2))).1), .int ((s_piece A (z (k + 1)) (z (k + 2))).1)]) (hG1) rfl lL_71 (by first | assumption | rfl | decide) rfl ⟨rfl, by decide, by decide, by decide, rfl, rfl⟩ ?_
  refine tf_go hx ftL_case11 1 [true] 1302 [some (.ref 3), some (.ref 4), some (.ref 125), some (.int (nI k))] [] Y1 rfl ⟨by decide, by decide, rfl⟩ ⟨trivial, rfl⟩ ?_
  refine tf_go hx ftL_case11 2 [] 18 [some (.ref 3), some (.ref 4), some (.ref 125), some (.int ((nI k) + 5))] [] Y1 rfl ⟨by decide, by decide, rfl⟩ trivial ?_
  rw [show ((nI k) + 5) = nI (k + 5) from (tf_add (a := k) (b := 5) rfl (rfl : (5 : Int32) = nI 5))]
  have hz2 : ∀ j, Y1 3 j = z j := fun j => by rw [fm_le hg1 3 (by omega)]; exact hz1 j
  exact ih Y1 (s_piece A (z (k + 1)) (z (k + 2))).2 (ok_piece (z (k + 1)) (z (k + 2)) hA) (cs_fm (ok_piece (z (k + 1)) (z (k + 2)) hA) hc1 hg1) hm1 hz2

set_option maxHeartbeats 2000000 in
theorem law_c12 {N k : Nat} {z : Nat → Int32} {x : tf_X} {Y : tf_Sg} {A : tf_A} (hx : tf_C x cL_law RL 4 9 200 5000 false) (hN : N ≤ 320) (hk : k + 5 ≤ N) (hA : tf_okA A) (hC : tf_cs Y A) (hM : tf_ms (tf_GG N) Y 125 A) (hz : ∀ j, Y 3 j = z j) (ih : ∀ (Y : tf_Sg) (A : tf_A), tf_okA A → tf_cs Y A → tf_ms (tf_GG N) Y 125 A → (∀ j, Y 3 j = z j) → tf_K x 200 5000 (tf_GG N) Y 18 [some (.ref 3), some (.ref 4), some (.ref 125), some (.int (nI (k + 5)))] []) : tf_K x 200 5000 (tf_GG N) Y 640 [some (.ref 3), some (.ref 4), some (.ref 125), some (.int (nI k))] [] := by
  have i1 : vp_in (nI (k + 1)) (tf_ln (tf_GG N) 3) := tf_in (n := k + 1) (N := N) rfl rfl (by omega) (by omega)
  have i2 : vp_in (nI (k + 2)) (tf_ln (tf_GG N) 3) := tf_in (n := k + 2) (N := N) rfl rfl (by omega) (by omega)
  have i3 : vp_in (nI (k + 3)) (tf_ln (tf_GG N) 3) := tf_in (n := k + 3) (N := N) rfl rfl (by omega) (by omega)
  have i4 : vp_in (nI (k + 4)) (tf_ln (tf_GG N) 3) := tf_in (n := k + 4) (N := N) rfl rfl (by omega) (by omega)
  refine tf_go hx ftL_case12 1 [] 641 [some (.ref 3), some (.ref 4), some (.ref 125), some (.int (nI k))] [.ref 4] Y rfl ⟨by decide, by decide, rfl⟩ trivial ?_
  obtain ⟨X1, hF1, hc1, hf1⟩ := c_pieces (N := N) (S := Y)  hA hC
  refine tf_cV hx ftL_case12 (nx := 644) (As := []) (rest := []) (st2 := [.int ((s_pieces A).1)]) (hF1) rfl lL_72 (by first | assumption | rfl | decide) rfl ⟨rfl, by decide, by decide, by decide, rfl, rfl⟩ ?_
  have hz1 : ∀ j, X1 3 j = z j := fun j => by rw [hf1 3 (by omega)]; exact hz j
  obtain ⟨Y1, hG1, hm1, hg1⟩ := p_pieces (G := (tf_GG N)) (S := X1) (o := 125)  mdG.1 mdG.2 hA (ms_fc hM hf1)
  refine tf_go hx ftL_case12 1 [] 645 [some (.ref 3), some (.ref 4), some (.ref 125), some (.int (nI k))] [.ref 125, .int ((s_pieces A).1)] X1 rfl ⟨by decide, by decide, rfl⟩ trivial ?_
  refine tf_cV hx ftL_case12 (nx := 648) (As := []) (rest := [.int ((s_pieces A).1)]) (st2 := [.int ((s_pieces A).1), .int ((s_pieces A).1)]) (hG1) rfl lL_75 (by first | assumption | rfl | decide) rfl ⟨rfl, by decide, by decide, by decide, rfl, rfl⟩ ?_
  refine tf_go hx ftL_case12 1 [true] 1302 [some (.ref 3), some (.ref 4), some (.ref 125), some (.int (nI k))] [] Y1 rfl ⟨by decide, by decide, rfl⟩ ⟨trivial, rfl⟩ ?_
  refine tf_go hx ftL_case12 2 [] 18 [some (.ref 3), some (.ref 4), some (.ref 125), some (.int ((nI k) + 5))] [] Y1 rfl ⟨by decide, by decide, rfl⟩ trivial ?_
  rw [show ((nI k) + 5) = nI (k + 5) from (tf_add (a := k) (b := 5) rfl (rfl : (5 : Int32) = nI 5))]
  have hz2 : ∀ j, Y1 3 j = z j := fun j => by rw [fm_le hg1 3 (by omega)]; exact hz1 j
  exact ih Y1 (s_pieces A).2 (ok_pieces hA) (cs_fm (ok_pieces hA) hc1 hg1) hm1 hz2

set_option maxHeartbeats 2000000 in
theorem law_c13 {N k : Nat} {z : Nat → Int32} {x : tf_X} {Y : tf_Sg} {A : tf_A} (hx : tf_C x cL_law RL 4 9 200 5000 false) (hN : N ≤ 320) (hk : k + 5 ≤ N) (hA : tf_okA A) (hC : tf_cs Y A) (hM : tf_ms (tf_GG N) Y 125 A) (hz : ∀ j, Y 3 j = z j) (ih : ∀ (Y : tf_Sg) (A : tf_A), tf_okA A → tf_cs Y A → tf_ms (tf_GG N) Y 125 A → (∀ j, Y 3 j = z j) → tf_K x 200 5000 (tf_GG N) Y 18 [some (.ref 3), some (.ref 4), some (.ref 125), some (.int (nI (k + 5)))] []) : tf_K x 200 5000 (tf_GG N) Y 653 [some (.ref 3), some (.ref 4), some (.ref 125), some (.int (nI k))] [] := by
  have i1 : vp_in (nI (k + 1)) (tf_ln (tf_GG N) 3) := tf_in (n := k + 1) (N := N) rfl rfl (by omega) (by omega)
  have i2 : vp_in (nI (k + 2)) (tf_ln (tf_GG N) 3) := tf_in (n := k + 2) (N := N) rfl rfl (by omega) (by omega)
  have i3 : vp_in (nI (k + 3)) (tf_ln (tf_GG N) 3) := tf_in (n := k + 3) (N := N) rfl rfl (by omega) (by omega)
  have i4 : vp_in (nI (k + 4)) (tf_ln (tf_GG N) 3) := tf_in (n := k + 4) (N := N) rfl rfl (by omega) (by omega)
  by_cases zb : z (k + 3) = 0
  · refine tf_go hx ftL_case13 1 [] 654 [some (.ref 3), some (.ref 4), some (.ref 125), some (.int (nI k))] [.ref 4] Y rfl ⟨by decide, by decide, rfl⟩ trivial ?_
    refine tf_go hx ftL_case13 4 [] 658 [some (.ref 3), some (.ref 4), some (.ref 125), some (.int (nI k))] [.int ((nI k) + 1), .ref 3, .ref 4] Y rfl ⟨by decide, by decide, rfl⟩ trivial ?_
    rw [show ((nI k) + 1) = nI (k + 1) from (tf_add (a := k) (b := 1) rfl (rfl : (1 : Int32) = nI 1))]
    refine tf_go hx ftL_case13 1 [] 659 [some (.ref 3), some (.ref 4), some (.ref 125), some (.int (nI k))] [.int (Y 3 (Int32.toNatClampNeg (nI (k + 1)))), .ref 4] Y rfl ⟨by decide, by decide, rfl⟩ ⟨trivial, ⟨Or.inr (by first | assumption | rfl | decide | omega | exact Nat.succ_ne_zero _), by first | assumption | exact tf_in (n := (k + 1)) rfl (by first | assumption | rfl) (by omega) (by decide)⟩⟩ ?_
    rw [show (Y 3 (Int32.toNatClampNeg (nI (k + 1)))) = (z (k + 1)) from (by rw [tf_cl_nI (by omega)]; exact hz (k + 1))]
    refine tf_go hx ftL_case13 4 [] 663 [some (.ref 3), some (.ref 4), some (.ref 125), some (.int (nI k))] [.int ((nI k) + 2), .ref 3, .int (z (k + 1)), .ref 4] Y rfl ⟨by decide, by decide, rfl⟩ trivial ?_
    rw [show ((nI k) + 2) = nI (k + 2) from (tf_add (a := k) (b := 2) rfl (rfl : (2 : Int32) = nI 2))]
    refine tf_go hx ftL_case13 1 [] 664 [some (.ref 3), some (.ref 4), some (.ref 125), some (.int (nI k))] [.int (Y 3 (Int32.toNatClampNeg (nI (k + 2)))), .int (z (k + 1)), .ref 4] Y rfl ⟨by decide, by decide, rfl⟩ ⟨trivial, ⟨Or.inr (by first | assumption | rfl | decide | omega | exact Nat.succ_ne_zero _), by first | assumption | exact tf_in (n := (k + 2)) rfl (by first | assumption | rfl) (by omega) (by decide)⟩⟩ ?_
    rw [show (Y 3 (Int32.toNatClampNeg (nI (k + 2)))) = (z (k + 2)) from (by rw [tf_cl_nI (by omega)]; exact hz (k + 2))]
    refine tf_go hx ftL_case13 4 [] 668 [some (.ref 3), some (.ref 4), some (.ref 125), some (.int (nI k))] [.int ((nI k) + 3), .ref 3, .int (z (k + 2)), .int (z (k + 1)), .ref 4] Y rfl ⟨by decide, by decide, rfl⟩ trivial ?_
    rw [show ((nI k) + 3) = nI (k + 3) from (tf_add (a := k) (b := 3) rfl (rfl : (3 : Int32) = nI 3))]
    refine tf_go hx ftL_case13 1 [] 669 [some (.ref 3), some (.ref 4), some (.ref 125), some (.int (nI k))] [.int (Y 3 (Int32.toNatClampNeg (nI (k + 3)))), .int (z (k + 2)), .int (z (k + 1)), .ref 4] Y rfl ⟨by decide, by decide, rfl⟩ ⟨trivial, ⟨Or.inr (by first | assumption | rfl | decide | omega | exact Nat.succ_ne_zero _), by first | assumption | exact tf_in (n := (k + 3)) rfl (by first | assumption | rfl) (by omega) (by decide)⟩⟩ ?_
    rw [show (Y 3 (Int32.toNatClampNeg (nI (k + 3)))) = (z (k + 3)) from (by rw [tf_cl_nI (by omega)]; exact hz (k + 3))]
    refine tf_go hx ftL_case13 1 [true] 676 [some (.ref 3), some (.ref 4), some (.ref 125), some (.int (nI k))] [.int (z (k + 2)), .int (z (k + 1)), .ref 4] Y rfl ⟨by decide, by decide, rfl⟩ ⟨trivial, zb⟩ ?_
    refine tf_go hx ftL_case13 1 [] 677 [some (.ref 3), some (.ref 4), some (.ref 125), some (.int (nI k))] [.int 0, .int (z (k + 2)), .int (z (k + 1)), .ref 4] Y rfl ⟨by decide, by decide, rfl⟩ trivial ?_
    obtain ⟨X1, hF1, hc1, hf1⟩ := c_time (N := N) (S := Y) (z (k + 1)) (z (k + 2)) 0 hA hC (by decide)
    refine tf_cV hx ftL_case13 (nx := 680) (As := [.int (z (k + 1)), .int (z (k + 2)), .int 0]) (rest := []) (st2 := [.int ((s_time A (z (k + 1)) (z (k + 2)) 0).1)]) (hF1) rfl lL_76 (by first | assumption | rfl | decide) rfl ⟨rfl, by decide, by decide, by decide, rfl, rfl⟩ ?_
    have hz1 : ∀ j, X1 3 j = z j := fun j => by rw [hf1 3 (by omega)]; exact hz j
    obtain ⟨Y1, hG1, hm1, hg1⟩ := p_time (G := (tf_GG N)) (S := X1) (o := 125) (z (k + 1)) (z (k + 2)) 0 mdG.1 mdG.2 hA (ms_fc hM hf1) (by decide)
    refine tf_go hx ftL_case13 1 [] 681 [some (.ref 3), some (.ref 4), some (.ref 125), some (.int (nI k))] [.ref 125, .int ((s_time A (z (k + 1)) (z (k + 2)) 0).1)] X1 rfl ⟨by decide, by decide, rfl⟩ trivial ?_
    refine tf_go hx ftL_case13 4 [] 685 [some (.ref 3), some (.ref 4), some (.ref 125), some (.int (nI k))] [.int ((nI k) + 1), .ref 3, .ref 125, .int ((s_time A (z (k + 1)) (z (k + 2)) 0).1)] X1 rfl ⟨by decide, by decide, rfl⟩ trivial ?_
    rw [show ((nI k) + 1) = nI (k + 1) from (tf_add (a := k) (b := 1) rfl (rfl : (1 : Int32) = nI 1))]
    refine tf_go hx ftL_case13 1 [] 686 [some (.ref 3), some (.ref 4), some (.ref 125), some (.int (nI k))] [.int (X1 3 (Int32.toNatClampNeg (nI (k + 1)))), .ref 125, .int ((s_time A (z (k + 1)) (z (k + 2)) 0).1)] X1 rfl ⟨by decide, by decide, rfl⟩ ⟨trivial, ⟨Or.inr (by first | assumption | rfl | decide | omega | exact Nat.succ_ne_zero _), by first | assumption | exact tf_in (n := (k + 1)) rfl (by first | assumption | rfl) (by omega) (by decide)⟩⟩ ?_
    rw [show (X1 3 (Int32.toNatClampNeg (nI (k + 1)))) = (z (k + 1)) from (by rw [tf_cl_nI (by omega)]; exact hz1 (k + 1))]
    refine tf_go hx ftL_case13 4 [] 690 [some (.ref 3), some (.ref 4), some (.ref 125), some (.int (nI k))] [.int ((nI k) + 2), .ref 3, .int (z (k + 1)), .ref 125, .int ((s_time A (z (k + 1)) (z (k + 2)) 0).1)] X1 rfl ⟨by decide, by decide, rfl⟩ trivial ?_
    rw [show ((nI k) + 2) = nI (k + 2) from (tf_add (a := k) (b := 2) rfl (rfl : (2 : Int32) = nI 2))]
    refine tf_go hx ftL_case13 1 [] 691 [some (.ref 3), some (.ref 4), some (.ref 125), some (.int (nI k))] [.int (X1 3 (Int32.toNatClampNeg (nI (k + 2)))), .int (z (k + 1)), .ref 125, .int ((s_time A (z (k + 1)) (z (k + 2)) 0).1)] X1 rfl ⟨by decide, by decide, rfl⟩ ⟨trivial, ⟨Or.inr (by first | assumption | rfl | decide | omega | exact Nat.succ_ne_zero _), by first | assumption | exact tf_in (n := (k + 2)) rfl (by first | assumption | rfl) (by omega) (by decide)⟩⟩ ?_
    rw [show (X1 3 (Int32.toNatClampNeg (nI (k + 2)))) = (z (k + 2)) from (by rw [tf_cl_nI (by omega)]; exact hz1 (k + 2))]
    refine tf_go hx ftL_case13 4 [] 695 [some (.ref 3), some (.ref 4), some (.ref 125), some (.int (nI k))] [.int ((nI k) + 3), .ref 3, .int (z (k + 2)), .int (z (k + 1)), .ref 125, .int ((s_time A (z (k + 1)) (z (k + 2)) 0).1)] X1 rfl ⟨by decide, by decide, rfl⟩ trivial ?_
    rw [show ((nI k) + 3) = nI (k + 3) from (tf_add (a := k) (b := 3) rfl (rfl : (3 : Int32) = nI 3))]
    refine tf_go hx ftL_case13 1 [] 696 [some (.ref 3), some (.ref 4), some (.ref 125), some (.int (nI k))] [.int (X1 3 (Int32.toNatClampNeg (nI (k + 3)))), .int (z (k + 2)), .int (z (k + 1)), .ref 125, .int ((s_time A (z (k + 1)) (z (k + 2)) 0).1)] X1 rfl ⟨by decide, by decide, rfl⟩ ⟨trivial, ⟨Or.inr (by first | assumption | rfl | decide | omega | exact Nat.succ_ne_zero _), by first | assumption | exact tf_in (n := (k + 3)) rfl (by first | assumption | rfl) (by omega) (by decide)⟩⟩ ?_
    rw [show (X1 3 (Int32.toNatClampNeg (nI (k + 3)))) = (z (k + 3)) from (by rw [tf_cl_nI (by omega)]; exact hz1 (k + 3))]
    refine tf_go hx ftL_case13 1 [true] 703 [some (.ref 3), some (.ref 4), some (.ref 125), some (.int (nI k))] [.int (z (k + 2)), .int (z (k + 1)), .ref 125, .int ((s_time A (z (k + 1)) (z (k + 2)) 0).1)] X1 rfl ⟨by decide, by decide, rfl⟩ ⟨trivial, zb⟩ ?_
    refine tf_go hx ftL_case13 1 [] 704 [some (.ref 3), some (.ref 4), some (.ref 125), some (.int (nI k))] [.int 0, .int (z (k + 2)), .int (z (k + 1)), .ref 125, .int ((s_time A (z (k + 1)) (z (k + 2)) 0).1)] X1 rfl ⟨by decide, by decide, rfl⟩ trivial ?_
    refine tf_cV hx ftL_case13 (nx := 707) (As := [.int (z (k + 1)), .int (z (k + 2)), .int 0]) (rest := [.int ((s_time A (z (k + 1)) (z (k + 2)) 0).1)]) (st2 := [.int ((s_time A (z (k + 1)) (z (k + 2)) 0).1), .int ((s_time A (z (k + 1)) (z (k + 2)) 0).1)]) (hG1) rfl lL_80 (by first | assumption | rfl | decide) rfl ⟨rfl, by decide, by decide, by decide, rfl, rfl⟩ ?_
    refine tf_go hx ftL_case13 1 [true] 1302 [some (.ref 3), some (.ref 4), some (.ref 125), some (.int (nI k))] [] Y1 rfl ⟨by decide, by decide, rfl⟩ ⟨trivial, rfl⟩ ?_
    refine tf_go hx ftL_case13 2 [] 18 [some (.ref 3), some (.ref 4), some (.ref 125), some (.int ((nI k) + 5))] [] Y1 rfl ⟨by decide, by decide, rfl⟩ trivial ?_
    rw [show ((nI k) + 5) = nI (k + 5) from (tf_add (a := k) (b := 5) rfl (rfl : (5 : Int32) = nI 5))]
    have hz2 : ∀ j, Y1 3 j = z j := fun j => by rw [fm_le hg1 3 (by omega)]; exact hz1 j
    exact ih Y1 (s_time A (z (k + 1)) (z (k + 2)) 0).2 (ok_time (z (k + 1)) (z (k + 2)) 0 hA) (cs_fm (ok_time (z (k + 1)) (z (k + 2)) 0 hA) hc1 hg1) hm1 hz2
  · refine tf_go hx ftL_case13 1 [] 654 [some (.ref 3), some (.ref 4), some (.ref 125), some (.int (nI k))] [.ref 4] Y rfl ⟨by decide, by decide, rfl⟩ trivial ?_
    refine tf_go hx ftL_case13 4 [] 658 [some (.ref 3), some (.ref 4), some (.ref 125), some (.int (nI k))] [.int ((nI k) + 1), .ref 3, .ref 4] Y rfl ⟨by decide, by decide, rfl⟩ trivial ?_
    rw [show ((nI k) + 1) = nI (k + 1) from (tf_add (a := k) (b := 1) rfl (rfl : (1 : Int32) = nI 1))]
    refine tf_go hx ftL_case13 1 [] 659 [some (.ref 3), some (.ref 4), some (.ref 125), some (.int (nI k))] [.int (Y 3 (Int32.toNatClampNeg (nI (k + 1)))), .ref 4] Y rfl ⟨by decide, by decide, rfl⟩ ⟨trivial, ⟨Or.inr (by first | assumption | rfl | decide | omega | exact Nat.succ_ne_zero _), by first | assumption | exact tf_in (n := (k + 1)) rfl (by first | assumption | rfl) (by omega) (by decide)⟩⟩ ?_
    rw [show (Y 3 (Int32.toNatClampNeg (nI (k + 1)))) = (z (k + 1)) from (by rw [tf_cl_nI (by omega)]; exact hz (k + 1))]
    refine tf_go hx ftL_case13 4 [] 663 [some (.ref 3), some (.ref 4), some (.ref 125), some (.int (nI k))] [.int ((nI k) + 2), .ref 3, .int (z (k + 1)), .ref 4] Y rfl ⟨by decide, by decide, rfl⟩ trivial ?_
    rw [show ((nI k) + 2) = nI (k + 2) from (tf_add (a := k) (b := 2) rfl (rfl : (2 : Int32) = nI 2))]
    refine tf_go hx ftL_case13 1 [] 664 [some (.ref 3), some (.ref 4), some (.ref 125), some (.int (nI k))] [.int (Y 3 (Int32.toNatClampNeg (nI (k + 2)))), .int (z (k + 1)), .ref 4] Y rfl ⟨by decide, by decide, rfl⟩ ⟨trivial, ⟨Or.inr (by first | assumption | rfl | decide | omega | exact Nat.succ_ne_zero _), by first | assumption | exact tf_in (n := (k + 2)) rfl (by first | assumption | rfl) (by omega) (by decide)⟩⟩ ?_
    rw [show (Y 3 (Int32.toNatClampNeg (nI (k + 2)))) = (z (k + 2)) from (by rw [tf_cl_nI (by omega)]; exact hz (k + 2))]
    refine tf_go hx ftL_case13 4 [] 668 [some (.ref 3), some (.ref 4), some (.ref 125), some (.int (nI k))] [.int ((nI k) + 3), .ref 3, .int (z (k + 2)), .int (z (k + 1)), .ref 4] Y rfl ⟨by decide, by decide, rfl⟩ trivial ?_
    rw [show ((nI k) + 3) = nI (k + 3) from (tf_add (a := k) (b := 3) rfl (rfl : (3 : Int32) = nI 3))]
    refine tf_go hx ftL_case13 1 [] 669 [some (.ref 3), some (.ref 4), some (.ref 125), some (.int (nI k))] [.int (Y 3 (Int32.toNatClampNeg (nI (k + 3)))), .int (z (k + 2)), .int (z (k + 1)), .ref 4] Y rfl ⟨by decide, by decide, rfl⟩ ⟨trivial, ⟨Or.inr (by first | assumption | rfl | decide | omega | exact Nat.succ_ne_zero _), by first | assumption | exact tf_in (n := (k + 3)) rfl (by first | assumption | rfl) (by omega) (by decide)⟩⟩ ?_
    rw [show (Y 3 (Int32.toNatClampNeg (nI (k + 3)))) = (z (k + 3)) from (by rw [tf_cl_nI (by omega)]; exact hz (k + 3))]
    refine tf_go hx ftL_case13 1 [false] 672 [some (.ref 3), some (.ref 4), some (.ref 125), some (.int (nI k))] [.int (z (k + 2)), .int (z (k + 1)), .ref 4] Y rfl ⟨by decide, by decide, rfl⟩ ⟨trivial, zb⟩ ?_
    refine tf_go hx ftL_case13 2 [] 677 [some (.ref 3), some (.ref 4), some (.ref 125), some (.int (nI k))] [.int 1, .int (z (k + 2)), .int (z (k + 1)), .ref 4] Y rfl ⟨by decide, by decide, rfl⟩ trivial ?_
    obtain ⟨X1, hF1, hc1, hf1⟩ := c_time (N := N) (S := Y) (z (k + 1)) (z (k + 2)) 1 hA hC (by decide)
    refine tf_cV hx ftL_case13 (nx := 680) (As := [.int (z (k + 1)), .int (z (k + 2)), .int 1]) (rest := []) (st2 := [.int ((s_time A (z (k + 1)) (z (k + 2)) 1).1)]) (hF1) rfl lL_76 (by first | assumption | rfl | decide) rfl ⟨rfl, by decide, by decide, by decide, rfl, rfl⟩ ?_
    have hz1 : ∀ j, X1 3 j = z j := fun j => by rw [hf1 3 (by omega)]; exact hz j
    obtain ⟨Y1, hG1, hm1, hg1⟩ := p_time (G := (tf_GG N)) (S := X1) (o := 125) (z (k + 1)) (z (k + 2)) 1 mdG.1 mdG.2 hA (ms_fc hM hf1) (by decide)
    refine tf_go hx ftL_case13 1 [] 681 [some (.ref 3), some (.ref 4), some (.ref 125), some (.int (nI k))] [.ref 125, .int ((s_time A (z (k + 1)) (z (k + 2)) 1).1)] X1 rfl ⟨by decide, by decide, rfl⟩ trivial ?_
    refine tf_go hx ftL_case13 4 [] 685 [some (.ref 3), some (.ref 4), some (.ref 125), some (.int (nI k))] [.int ((nI k) + 1), .ref 3, .ref 125, .int ((s_time A (z (k + 1)) (z (k + 2)) 1).1)] X1 rfl ⟨by decide, by decide, rfl⟩ trivial ?_
    rw [show ((nI k) + 1) = nI (k + 1) from (tf_add (a := k) (b := 1) rfl (rfl : (1 : Int32) = nI 1))]
    refine tf_go hx ftL_case13 1 [] 686 [some (.ref 3), some (.ref 4), some (.ref 125), some (.int (nI k))] [.int (X1 3 (Int32.toNatClampNeg (nI (k + 1)))), .ref 125, .int ((s_time A (z (k + 1)) (z (k + 2)) 1).1)] X1 rfl ⟨by decide, by decide, rfl⟩ ⟨trivial, ⟨Or.inr (by first | assumption | rfl | decide | omega | exact Nat.succ_ne_zero _), by first | assumption | exact tf_in (n := (k + 1)) rfl (by first | assumption | rfl) (by omega) (by decide)⟩⟩ ?_
    rw [show (X1 3 (Int32.toNatClampNeg (nI (k + 1)))) = (z (k + 1)) from (by rw [tf_cl_nI (by omega)]; exact hz1 (k + 1))]
    refine tf_go hx ftL_case13 4 [] 690 [some (.ref 3), some (.ref 4), some (.ref 125), some (.int (nI k))] [.int ((nI k) + 2), .ref 3, .int (z (k + 1)), .ref 125, .int ((s_time A (z (k + 1)) (z (k + 2)) 1).1)] X1 rfl ⟨by decide, by decide, rfl⟩ trivial ?_
    rw [show ((nI k) + 2) = nI (k + 2) from (tf_add (a := k) (b := 2) rfl (rfl : (2 : Int32) = nI 2))]
    refine tf_go hx ftL_case13 1 [] 691 [some (.ref 3), some (.ref 4), some (.ref 125), some (.int (nI k))] [.int (X1 3 (Int32.toNatClampNeg (nI (k + 2)))), .int (z (k + 1)), .ref 125, .int ((s_time A (z (k + 1)) (z (k + 2)) 1).1)] X1 rfl ⟨by decide, by decide, rfl⟩ ⟨trivial, ⟨Or.inr (by first | assumption | rfl | decide | omega | exact Nat.succ_ne_zero _), by first | assumption | exact tf_in (n := (k + 2)) rfl (by first | assumption | rfl) (by omega) (by decide)⟩⟩ ?_
    rw [show (X1 3 (Int32.toNatClampNeg (nI (k + 2)))) = (z (k + 2)) from (by rw [tf_cl_nI (by omega)]; exact hz1 (k + 2))]
    refine tf_go hx ftL_case13 4 [] 695 [some (.ref 3), some (.ref 4), some (.ref 125), some (.int (nI k))] [.int ((nI k) + 3), .ref 3, .int (z (k + 2)), .int (z (k + 1)), .ref 125, .int ((s_time A (z (k + 1)) (z (k + 2)) 1).1)] X1 rfl ⟨by decide, by decide, rfl⟩ trivial ?_
    rw [show ((nI k) + 3) = nI (k + 3) from (tf_add (a := k) (b := 3) rfl (rfl : (3 : Int32) = nI 3))]
    refine tf_go hx ftL_case13 1 [] 696 [some (.ref 3), some (.ref 4), some (.ref 125), some (.int (nI k))] [.int (X1 3 (Int32.toNatClampNeg (nI (k + 3)))), .int (z (k + 2)), .int (z (k + 1)), .ref 125, .int ((s_time A (z (k + 1)) (z (k + 2)) 1).1)] X1 rfl ⟨by decide, by decide, rfl⟩ ⟨trivial, ⟨Or.inr (by first | assumption | rfl | decide | omega | exact Nat.succ_ne_zero _), by first | assumption | exact tf_in (n := (k + 3)) rfl (by first | assumption | rfl) (by omega) (by decide)⟩⟩ ?_
    rw [show (X1 3 (Int32.toNatClampNeg (nI (k + 3)))) = (z (k + 3)) from (by rw [tf_cl_nI (by omega)]; exact hz1 (k + 3))]
    refine tf_go hx ftL_case13 1 [false] 699 [some (.ref 3), some (.ref 4), some (.ref 125), some (.int (nI k))] [.int (z (k + 2)), .int (z (k + 1)), .ref 125, .int ((s_time A (z (k + 1)) (z (k + 2)) 1).1)] X1 rfl ⟨by decide, by decide, rfl⟩ ⟨trivial, zb⟩ ?_
    refine tf_go hx ftL_case13 2 [] 704 [some (.ref 3), some (.ref 4), some (.ref 125), some (.int (nI k))] [.int 1, .int (z (k + 2)), .int (z (k + 1)), .ref 125, .int ((s_time A (z (k + 1)) (z (k + 2)) 1).1)] X1 rfl ⟨by decide, by decide, rfl⟩ trivial ?_
    refine tf_cV hx ftL_case13 (nx := 707) (As := [.int (z (k + 1)), .int (z (k + 2)), .int 1]) (rest := [.int ((s_time A (z (k + 1)) (z (k + 2)) 1).1)]) (st2 := [.int ((s_time A (z (k + 1)) (z (k + 2)) 1).1), .int ((s_time A (z (k + 1)) (z (k + 2)) 1).1)]) (hG1) rfl lL_80 (by first | assumption | rfl | decide) rfl ⟨rfl, by decide, by decide, by decide, rfl, rfl⟩ ?_
    refine tf_go hx ftL_case13 1 [true] 1302 [some (.ref 3), some (.ref 4), some (.ref 125), some (.int (nI k))] [] Y1 rfl ⟨by decide, by decide, rfl⟩ ⟨trivial, rfl⟩ ?_
    refine tf_go hx ftL_case13 2 [] 18 [some (.ref 3), some (.ref 4), some (.ref 125), some (.int ((nI k) + 5))] [] Y1 rfl ⟨by decide, by decide, rfl⟩ trivial ?_
    rw [show ((nI k) + 5) = nI (k + 5) from (tf_add (a := k) (b := 5) rfl (rfl : (5 : Int32) = nI 5))]
    have hz2 : ∀ j, Y1 3 j = z j := fun j => by rw [fm_le hg1 3 (by omega)]; exact hz1 j
    exact ih Y1 (s_time A (z (k + 1)) (z (k + 2)) 1).2 (ok_time (z (k + 1)) (z (k + 2)) 1 hA) (cs_fm (ok_time (z (k + 1)) (z (k + 2)) 1 hA) hc1 hg1) hm1 hz2

set_option maxHeartbeats 2000000 in
theorem law_c14 {N k : Nat} {z : Nat → Int32} {x : tf_X} {Y : tf_Sg} {A : tf_A} (hx : tf_C x cL_law RL 4 9 200 5000 false) (hN : N ≤ 320) (hk : k + 5 ≤ N) (hA : tf_okA A) (hC : tf_cs Y A) (hM : tf_ms (tf_GG N) Y 125 A) (hz : ∀ j, Y 3 j = z j) (ih : ∀ (Y : tf_Sg) (A : tf_A), tf_okA A → tf_cs Y A → tf_ms (tf_GG N) Y 125 A → (∀ j, Y 3 j = z j) → tf_K x 200 5000 (tf_GG N) Y 18 [some (.ref 3), some (.ref 4), some (.ref 125), some (.int (nI (k + 5)))] []) : tf_K x 200 5000 (tf_GG N) Y 712 [some (.ref 3), some (.ref 4), some (.ref 125), some (.int (nI k))] [] := by
  have i1 : vp_in (nI (k + 1)) (tf_ln (tf_GG N) 3) := tf_in (n := k + 1) (N := N) rfl rfl (by omega) (by omega)
  have i2 : vp_in (nI (k + 2)) (tf_ln (tf_GG N) 3) := tf_in (n := k + 2) (N := N) rfl rfl (by omega) (by omega)
  have i3 : vp_in (nI (k + 3)) (tf_ln (tf_GG N) 3) := tf_in (n := k + 3) (N := N) rfl rfl (by omega) (by omega)
  have i4 : vp_in (nI (k + 4)) (tf_ln (tf_GG N) 3) := tf_in (n := k + 4) (N := N) rfl rfl (by omega) (by omega)
  refine tf_go hx ftL_case14 1 [] 713 [some (.ref 3), some (.ref 4), some (.ref 125), some (.int (nI k))] [.ref 4] Y rfl ⟨by decide, by decide, rfl⟩ trivial ?_
  refine tf_go hx ftL_case14 4 [] 717 [some (.ref 3), some (.ref 4), some (.ref 125), some (.int (nI k))] [.int ((nI k) + 1), .ref 3, .ref 4] Y rfl ⟨by decide, by decide, rfl⟩ trivial ?_
  rw [show ((nI k) + 1) = nI (k + 1) from (tf_add (a := k) (b := 1) rfl (rfl : (1 : Int32) = nI 1))]
  refine tf_go hx ftL_case14 1 [] 718 [some (.ref 3), some (.ref 4), some (.ref 125), some (.int (nI k))] [.int (Y 3 (Int32.toNatClampNeg (nI (k + 1)))), .ref 4] Y rfl ⟨by decide, by decide, rfl⟩ ⟨trivial, ⟨Or.inr (by first | assumption | rfl | decide | omega | exact Nat.succ_ne_zero _), by first | assumption | exact tf_in (n := (k + 1)) rfl (by first | assumption | rfl) (by omega) (by decide)⟩⟩ ?_
  rw [show (Y 3 (Int32.toNatClampNeg (nI (k + 1)))) = (z (k + 1)) from (by rw [tf_cl_nI (by omega)]; exact hz (k + 1))]
  obtain ⟨X1, hF1, hc1, hf1⟩ := c_may (N := N) (S := Y) (z (k + 1)) hA hC
  refine tf_cV hx ftL_case14 (nx := 721) (As := [.int (z (k + 1))]) (rest := []) (st2 := [.int ((s_may A (z (k + 1))).1)]) (hF1) rfl lL_81 (by first | assumption | rfl | decide) rfl ⟨rfl, by decide, by decide, by decide, rfl, rfl⟩ ?_
  have hz1 : ∀ j, X1 3 j = z j := fun j => by rw [hf1 3 (by omega)]; exact hz j
  obtain ⟨Y1, hG1, hm1, hg1⟩ := p_may (G := (tf_GG N)) (S := X1) (o := 125) (z (k + 1)) mdG.1 mdG.2 hA (ms_fc hM hf1)
  refine tf_go hx ftL_case14 1 [] 722 [some (.ref 3), some (.ref 4), some (.ref 125), some (.int (nI k))] [.ref 125, .int ((s_may A (z (k + 1))).1)] X1 rfl ⟨by decide, by decide, rfl⟩ trivial ?_
  refine tf_go hx ftL_case14 4 [] 726 [some (.ref 3), some (.ref 4), some (.ref 125), some (.int (nI k))] [.int ((nI k) + 1), .ref 3, .ref 125, .int ((s_may A (z (k + 1))).1)] X1 rfl ⟨by decide, by decide, rfl⟩ trivial ?_
  rw [show ((nI k) + 1) = nI (k + 1) from (tf_add (a := k) (b := 1) rfl (rfl : (1 : Int32) = nI 1))]
  refine tf_go hx ftL_case14 1 [] 727 [some (.ref 3), some (.ref 4), some (.ref 125), some (.int (nI k))] [.int (X1 3 (Int32.toNatClampNeg (nI (k + 1)))), .ref 125, .int ((s_may A (z (k + 1))).1)] X1 rfl ⟨by decide, by decide, rfl⟩ ⟨trivial, ⟨Or.inr (by first | assumption | rfl | decide | omega | exact Nat.succ_ne_zero _), by first | assumption | exact tf_in (n := (k + 1)) rfl (by first | assumption | rfl) (by omega) (by decide)⟩⟩ ?_
  rw [show (X1 3 (Int32.toNatClampNeg (nI (k + 1)))) = (z (k + 1)) from (by rw [tf_cl_nI (by omega)]; exact hz1 (k + 1))]
  refine tf_cV hx ftL_case14 (nx := 730) (As := [.int (z (k + 1))]) (rest := [.int ((s_may A (z (k + 1))).1)]) (st2 := [.int ((s_may A (z (k + 1))).1), .int ((s_may A (z (k + 1))).1)]) (hG1) rfl lL_84 (by first | assumption | rfl | decide) rfl ⟨rfl, by decide, by decide, by decide, rfl, rfl⟩ ?_
  refine tf_go hx ftL_case14 1 [true] 1302 [some (.ref 3), some (.ref 4), some (.ref 125), some (.int (nI k))] [] Y1 rfl ⟨by decide, by decide, rfl⟩ ⟨trivial, rfl⟩ ?_
  refine tf_go hx ftL_case14 2 [] 18 [some (.ref 3), some (.ref 4), some (.ref 125), some (.int ((nI k) + 5))] [] Y1 rfl ⟨by decide, by decide, rfl⟩ trivial ?_
  rw [show ((nI k) + 5) = nI (k + 5) from (tf_add (a := k) (b := 5) rfl (rfl : (5 : Int32) = nI 5))]
  have hz2 : ∀ j, Y1 3 j = z j := fun j => by rw [fm_le hg1 3 (by omega)]; exact hz1 j
  exact ih Y1 (s_may A (z (k + 1))).2 (ok_may (z (k + 1)) hA) (cs_fm (ok_may (z (k + 1)) hA) hc1 hg1) hm1 hz2

set_option maxHeartbeats 2000000 in
theorem law_c15 {N k : Nat} {z : Nat → Int32} {x : tf_X} {Y : tf_Sg} {A : tf_A} (hx : tf_C x cL_law RL 4 9 200 5000 false) (hN : N ≤ 320) (hk : k + 5 ≤ N) (hA : tf_okA A) (hC : tf_cs Y A) (hM : tf_ms (tf_GG N) Y 125 A) (hz : ∀ j, Y 3 j = z j) (ih : ∀ (Y : tf_Sg) (A : tf_A), tf_okA A → tf_cs Y A → tf_ms (tf_GG N) Y 125 A → (∀ j, Y 3 j = z j) → tf_K x 200 5000 (tf_GG N) Y 18 [some (.ref 3), some (.ref 4), some (.ref 125), some (.int (nI (k + 5)))] []) : tf_K x 200 5000 (tf_GG N) Y 735 [some (.ref 3), some (.ref 4), some (.ref 125), some (.int (nI k))] [] := by
  have i1 : vp_in (nI (k + 1)) (tf_ln (tf_GG N) 3) := tf_in (n := k + 1) (N := N) rfl rfl (by omega) (by omega)
  have i2 : vp_in (nI (k + 2)) (tf_ln (tf_GG N) 3) := tf_in (n := k + 2) (N := N) rfl rfl (by omega) (by omega)
  have i3 : vp_in (nI (k + 3)) (tf_ln (tf_GG N) 3) := tf_in (n := k + 3) (N := N) rfl rfl (by omega) (by omega)
  have i4 : vp_in (nI (k + 4)) (tf_ln (tf_GG N) 3) := tf_in (n := k + 4) (N := N) rfl rfl (by omega) (by omega)
  refine tf_go hx ftL_case15 1 [] 736 [some (.ref 3), some (.ref 4), some (.ref 125), some (.int (nI k))] [.ref 4] Y rfl ⟨by decide, by decide, rfl⟩ trivial ?_
  refine tf_go hx ftL_case15 4 [] 740 [some (.ref 3), some (.ref 4), some (.ref 125), some (.int (nI k))] [.int ((nI k) + 1), .ref 3, .ref 4] Y rfl ⟨by decide, by decide, rfl⟩ trivial ?_
  rw [show ((nI k) + 1) = nI (k + 1) from (tf_add (a := k) (b := 1) rfl (rfl : (1 : Int32) = nI 1))]
  refine tf_go hx ftL_case15 1 [] 741 [some (.ref 3), some (.ref 4), some (.ref 125), some (.int (nI k))] [.int (Y 3 (Int32.toNatClampNeg (nI (k + 1)))), .ref 4] Y rfl ⟨by decide, by decide, rfl⟩ ⟨trivial, ⟨Or.inr (by first | assumption | rfl | decide | omega | exact Nat.succ_ne_zero _), by first | assumption | exact tf_in (n := (k + 1)) rfl (by first | assumption | rfl) (by omega) (by decide)⟩⟩ ?_
  rw [show (Y 3 (Int32.toNatClampNeg (nI (k + 1)))) = (z (k + 1)) from (by rw [tf_cl_nI (by omega)]; exact hz (k + 1))]
  refine tf_go hx ftL_case15 4 [] 745 [some (.ref 3), some (.ref 4), some (.ref 125), some (.int (nI k))] [.int ((nI k) + 2), .ref 3, .int (z (k + 1)), .ref 4] Y rfl ⟨by decide, by decide, rfl⟩ trivial ?_
  rw [show ((nI k) + 2) = nI (k + 2) from (tf_add (a := k) (b := 2) rfl (rfl : (2 : Int32) = nI 2))]
  refine tf_go hx ftL_case15 1 [] 746 [some (.ref 3), some (.ref 4), some (.ref 125), some (.int (nI k))] [.int (Y 3 (Int32.toNatClampNeg (nI (k + 2)))), .int (z (k + 1)), .ref 4] Y rfl ⟨by decide, by decide, rfl⟩ ⟨trivial, ⟨Or.inr (by first | assumption | rfl | decide | omega | exact Nat.succ_ne_zero _), by first | assumption | exact tf_in (n := (k + 2)) rfl (by first | assumption | rfl) (by omega) (by decide)⟩⟩ ?_
  rw [show (Y 3 (Int32.toNatClampNeg (nI (k + 2)))) = (z (k + 2)) from (by rw [tf_cl_nI (by omega)]; exact hz (k + 2))]
  obtain ⟨X1, hF1, hc1, hf1⟩ := c_where (N := N) (S := Y) (z (k + 1)) (z (k + 2)) hA hC
  refine tf_cV hx ftL_case15 (nx := 749) (As := [.int (z (k + 1)), .int (z (k + 2))]) (rest := []) (st2 := [.int ((s_where A (z (k + 1)) (z (k + 2))).1)]) (hF1) rfl lL_85 (by first | assumption | rfl | decide) rfl ⟨rfl, by decide, by decide, by decide, rfl, rfl⟩ ?_
  have hz1 : ∀ j, X1 3 j = z j := fun j => by rw [hf1 3 (by omega)]; exact hz j
  obtain ⟨Y1, hG1, hm1, hg1⟩ := p_where (G := (tf_GG N)) (S := X1) (o := 125) (z (k + 1)) (z (k + 2)) mdG.1 mdG.2 hA (ms_fc hM hf1)
  refine tf_go hx ftL_case15 1 [] 750 [some (.ref 3), some (.ref 4), some (.ref 125), some (.int (nI k))] [.ref 125, .int ((s_where A (z (k + 1)) (z (k + 2))).1)] X1 rfl ⟨by decide, by decide, rfl⟩ trivial ?_
  refine tf_go hx ftL_case15 4 [] 754 [some (.ref 3), some (.ref 4), some (.ref 125), some (.int (nI k))] [.int ((nI k) + 1), .ref 3, .ref 125, .int ((s_where A (z (k + 1)) (z (k + 2))).1)] X1 rfl ⟨by decide, by decide, rfl⟩ trivial ?_
  rw [show ((nI k) + 1) = nI (k + 1) from (tf_add (a := k) (b := 1) rfl (rfl : (1 : Int32) = nI 1))]
  refine tf_go hx ftL_case15 1 [] 755 [some (.ref 3), some (.ref 4), some (.ref 125), some (.int (nI k))] [.int (X1 3 (Int32.toNatClampNeg (nI (k + 1)))), .ref 125, .int ((s_where A (z (k + 1)) (z (k + 2))).1)] X1 rfl ⟨by decide, by decide, rfl⟩ ⟨trivial, ⟨Or.inr (by first | assumption | rfl | decide | omega | exact Nat.succ_ne_zero _), by first | assumption | exact tf_in (n := (k + 1)) rfl (by first | assumption | rfl) (by omega) (by decide)⟩⟩ ?_
  rw [show (X1 3 (Int32.toNatClampNeg (nI (k + 1)))) = (z (k + 1)) from (by rw [tf_cl_nI (by omega)]; exact hz1 (k + 1))]
  refine tf_go hx ftL_case15 4 [] 759 [some (.ref 3), some (.ref 4), some (.ref 125), some (.int (nI k))] [.int ((nI k) + 2), .ref 3, .int (z (k + 1)), .ref 125, .int ((s_where A (z (k + 1)) (z (k + 2))).1)] X1 rfl ⟨by decide, by decide, rfl⟩ trivial ?_
  rw [show ((nI k) + 2) = nI (k + 2) from (tf_add (a := k) (b := 2) rfl (rfl : (2 : Int32) = nI 2))]
  refine tf_go hx ftL_case15 1 [] 760 [some (.ref 3), some (.ref 4), some (.ref 125), some (.int (nI k))] [.int (X1 3 (Int32.toNatClampNeg (nI (k + 2)))), .int (z (k + 1)), .ref 125, .int ((s_where A (z (k + 1)) (z (k + 2))).1)] X1 rfl ⟨by decide, by decide, rfl⟩ ⟨trivial, ⟨Or.inr (by first | assumption | rfl | decide | omega | exact Nat.succ_ne_zero _), by first | assumption | exact tf_in (n := (k + 2)) rfl (by first | assumption | rfl) (by omega) (by decide)⟩⟩ ?_
  rw [show (X1 3 (Int32.toNatClampNeg (nI (k + 2)))) = (z (k + 2)) from (by rw [tf_cl_nI (by omega)]; exact hz1 (k + 2))]
  refine tf_cV hx ftL_case15 (nx := 763) (As := [.int (z (k + 1)), .int (z (k + 2))]) (rest := [.int ((s_where A (z (k + 1)) (z (k + 2))).1)]) (st2 := [.int ((s_where A (z (k + 1)) (z (k + 2))).1), .int ((s_where A (z (k + 1)) (z (k + 2))).1)]) (hG1) rfl lL_88 (by first | assumption | rfl | decide) rfl ⟨rfl, by decide, by decide, by decide, rfl, rfl⟩ ?_
  refine tf_go hx ftL_case15 1 [true] 1302 [some (.ref 3), some (.ref 4), some (.ref 125), some (.int (nI k))] [] Y1 rfl ⟨by decide, by decide, rfl⟩ ⟨trivial, rfl⟩ ?_
  refine tf_go hx ftL_case15 2 [] 18 [some (.ref 3), some (.ref 4), some (.ref 125), some (.int ((nI k) + 5))] [] Y1 rfl ⟨by decide, by decide, rfl⟩ trivial ?_
  rw [show ((nI k) + 5) = nI (k + 5) from (tf_add (a := k) (b := 5) rfl (rfl : (5 : Int32) = nI 5))]
  have hz2 : ∀ j, Y1 3 j = z j := fun j => by rw [fm_le hg1 3 (by omega)]; exact hz1 j
  exact ih Y1 (s_where A (z (k + 1)) (z (k + 2))).2 (ok_where (z (k + 1)) (z (k + 2)) hA) (cs_fm (ok_where (z (k + 1)) (z (k + 2)) hA) hc1 hg1) hm1 hz2

