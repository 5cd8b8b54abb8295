theorem cS_n {S : tf_Sg} {o p n : Nat} (h : S p 1 = nI n) (hl : n < 2147483648) : cS S o p = tf_wr S o (o + 1) n (fun j => S (p + 1) j) := by unfold cS; rw [h, tf_cl_nI hl]

def fX7 : tf_F := [(3, 102, 0), (11, 4, 0), (20, 4, 1), (30, 4, 2), (34, 4, 3), (40, 4, 4), (44, 4, 5)]
set_option maxRecDepth 100000 in
theorem okfX7 : tf_okF RX7 fX7 := by unfold tf_okF; decide +kernel

def tX7_copyFrom : tf_T := [(0, .iconst 0, 1, 0, 0),
  (1, .istore_n 2, 2, 0, 0),
  (2, .iload_n 2, 3, 0, 0),
  (3, .iconst 4, 4, 0, 4),
  (4, .if_icmp .ge 24, 7, 28, 0),
  (7, .aload_n 0, 8, 0, 0),
  (8, .getfield 11, 11, 0, 0),
  (11, .iload_n 2, 12, 0, 0),
  (12, .aaload, 13, 0, 0),
  (13, .aload_n 1, 14, 0, 0),
  (14, .getfield 11, 17, 0, 0),
  (17, .iload_n 2, 18, 0, 0),
  (18, .aaload, 19, 0, 0),
  (19, .invokevirtual 47, 22, 0, 0),
  (22, .iinc 2 1, 25, 0, 1),
  (25, .goto (-23), 28, 2, 0),
  (28, .iconst 0, 29, 0, 0),
  (29, .istore_n 2, 30, 0, 0),
  (30, .iload_n 2, 31, 0, 0),
  (31, .iconst 4, 32, 0, 4),
  (32, .if_icmp .ge 24, 35, 56, 0),
  (35, .aload_n 0, 36, 0, 0),
  (36, .getfield 20, 39, 0, 0),
  (39, .iload_n 2, 40, 0, 0),
  (40, .aaload, 41, 0, 0),
  (41, .aload_n 1, 42, 0, 0),
  (42, .getfield 20, 45, 0, 0),
  (45, .iload_n 2, 46, 0, 0),
  (46, .aaload, 47, 0, 0),
  (47, .invokevirtual 51, 50, 0, 0),
  (50, .iinc 2 1, 53, 0, 1),
  (53, .goto (-23), 56, 30, 0),
  (56, .aload_n 0, 57, 0, 0),
  (57, .getfield 30, 60, 0, 0),
  (60, .aload_n 1, 61, 0, 0),
  (61, .getfield 30, 64, 0, 0),
  (64, .invokevirtual 54, 67, 0, 0),
  (67, .aload_n 0, 68, 0, 0),
  (68, .getfield 34, 71, 0, 0),
  (71, .aload_n 1, 72, 0, 0),
  (72, .getfield 34, 75, 0, 0),
  (75, .invokevirtual 54, 78, 0, 0),
  (78, .aload_n 0, 79, 0, 0),
  (79, .getfield 40, 82, 0, 0),
  (82, .aload_n 1, 83, 0, 0),
  (83, .getfield 40, 86, 0, 0),
  (86, .invokevirtual 57, 89, 0, 0),
  (89, .aload_n 0, 90, 0, 0),
  (90, .getfield 44, 93, 0, 0),
  (93, .aload_n 1, 94, 0, 0),
  (94, .getfield 44, 97, 0, 0),
  (97, .invokevirtual 54, 100, 0, 0),
  (100, .return_, 101, 0, 0)]
set_option maxRecDepth 100000 in
theorem okX7_copyFrom : tf_okT cX7_copyFrom tX7_copyFrom := by unfold tf_okT; decide +kernel
theorem ftX7_copyFrom : 1 ≤ 4 ∧ tf_okF RX7 fX7 ∧ tf_okT cX7_copyFrom tX7_copyFrom := ⟨by decide, okfX7, okX7_copyFrom⟩
def mX7_copyFrom : tf_M := (yX7_copyFrom, cX7_copyFrom, 3, none)

def tX7_init : tf_T := [(0, .aload_n 0, 1, 0, 0),
  (1, .invokespecial 3, 4, 0, 0),
  (4, .aload_n 0, 5, 0, 0),
  (5, .iconst 4, 6, 0, 4),
  (6, .anewarray 9, 9, 0, 0),
  (9, .putfield 11, 12, 0, 0),
  (12, .iconst 0, 13, 0, 0),
  (13, .istore_n 1, 14, 0, 0),
  (14, .iload_n 1, 15, 0, 0),
  (15, .iconst 4, 16, 0, 4),
  (16, .if_icmp .ge 22, 19, 38, 0),
  (19, .aload_n 0, 20, 0, 0),
  (20, .getfield 11, 23, 0, 0),
  (23, .iload_n 1, 24, 0, 0),
  (24, .new 9, 27, 0, 0),
  (27, .dup, 28, 0, 0),
  (28, .invokespecial 17, 31, 0, 0),
  (31, .aastore, 32, 0, 0),
  (32, .iinc 1 1, 35, 0, 1),
  (35, .goto (-21), 38, 14, 0),
  (38, .aload_n 0, 39, 0, 0),
  (39, .iconst 4, 40, 0, 4),
  (40, .anewarray 18, 43, 0, 0),
  (43, .putfield 20, 46, 0, 0),
  (46, .iconst 0, 47, 0, 0),
  (47, .istore_n 1, 48, 0, 0),
  (48, .iload_n 1, 49, 0, 0),
  (49, .iconst 4, 50, 0, 4),
  (50, .if_icmp .ge 22, 53, 72, 0),
  (53, .aload_n 0, 54, 0, 0),
  (54, .getfield 20, 57, 0, 0),
  (57, .iload_n 1, 58, 0, 0),
  (58, .new 18, 61, 0, 0),
  (61, .dup, 62, 0, 0),
  (62, .invokespecial 24, 65, 0, 0),
  (65, .aastore, 66, 0, 0),
  (66, .iinc 1 1, 69, 0, 1),
  (69, .goto (-21), 72, 48, 0),
  (72, .aload_n 0, 73, 0, 0),
  (73, .new 25, 76, 0, 0),
  (76, .dup, 77, 0, 0),
  (77, .bipush 40, 79, 0, 40),
  (79, .invokespecial 27, 82, 0, 0),
  (82, .putfield 30, 85, 0, 0),
  (85, .aload_n 0, 86, 0, 0),
  (86, .new 25, 89, 0, 0),
  (89, .dup, 90, 0, 0),
  (90, .bipush 40, 92, 0, 40),
  (92, .invokespecial 27, 95, 0, 0),
  (95, .putfield 34, 98, 0, 0),
  (98, .aload_n 0, 99, 0, 0),
  (99, .new 37, 102, 0, 0),
  (102, .dup, 103, 0, 0),
  (103, .invokespecial 39, 106, 0, 0),
  (106, .putfield 40, 109, 0, 0),
  (109, .aload_n 0, 110, 0, 0),
  (110, .new 25, 113, 0, 0),
  (113, .dup, 114, 0, 0),
  (114, .bipush 40, 116, 0, 40),
  (116, .invokespecial 27, 119, 0, 0),
  (119, .putfield 44, 122, 0, 0),
  (122, .return_, 123, 0, 0)]
set_option maxRecDepth 100000 in
theorem okX7_init : tf_okT cX7_init tX7_init := by unfold tf_okT; decide +kernel
theorem ftX7_init : 1 ≤ 3 ∧ tf_okF RX7 fX7 ∧ tf_okT cX7_init tX7_init := ⟨by decide, okfX7, okX7_init⟩
def mX7_init : tf_M := (yX7_init, cX7_init, 2, none)

set_option maxRecDepth 100000 in
theorem lX7_47 : tf_okV RX7 47 1 0 mX0_copyFrom := by unfold tf_okV tf_okL; decide +kernel

set_option maxRecDepth 100000 in
theorem lX7_51 : tf_okV RX7 51 1 1 mX1_copyFrom := by unfold tf_okV tf_okL; decide +kernel

set_option maxRecDepth 100000 in
theorem lX7_54 : tf_okV RX7 54 1 3 mX5_copyFrom := by unfold tf_okV tf_okL; decide +kernel

set_option maxRecDepth 100000 in
theorem lX7_57 : tf_okV RX7 57 1 6 mX9_copyFrom := by unfold tf_okV tf_okL; decide +kernel

set_option maxRecDepth 100000 in
theorem lX10_208 : tf_okV RX10 208 1 4 mX7_copyFrom := by unfold tf_okV tf_okL; decide +kernel

set_option maxHeartbeats 1000000 in
theorem w_copyn {N : Nat} {S : tf_Sg} (hm : ∀ w, w < 10 → ∃ m, m ≤ 8 ∧ S (86 + 2 * w) 1 = nI m) : tf_Fn mX9_copyFrom 3 0 0 (tf_GG N) S [.ref 32, .ref 84] (tf_GG N) (cW S 5 57 10) none := by
  refine tf_Fn_of (own := RX9) false ⟨by decide, rfl, by decide⟩ (Nat.le_of_ble_eq_true rfl) trivial (fun x hx hR => ?_)
  show tf_K x 0 0 (tf_GG N) S 0 [some (.ref 32), some (.ref 84), none] []
  refine tf_go hx ftX9_copyFrom 4 [] 8 [some (.ref 32), some (.ref 84), none] [] (tf_set S 32 2 (S 84 2)) rfl ⟨by decide, by decide, rfl⟩ ⟨⟨trivial, (by first | assumption | rfl | decide | omega | exact Nat.succ_ne_zero _)⟩, (by first | assumption | rfl | decide | omega | exact Nat.succ_ne_zero _)⟩ ?_
  refine tf_go hx ftX9_copyFrom 2 [] 10 [some (.ref 32), some (.ref 84), some (.int 0)] [] (tf_set S 32 2 (S 84 2)) rfl ⟨by decide, by decide, rfl⟩ trivial ?_
  show tf_K x 0 0 (tf_GG N) (cW S 5 57 0) 10 [some (.ref 32), some (.ref 84), some (.int 0)] []
  refine tf_fgt [some (.ref 32), some (.ref 84), some (.int 0)] (by simp [tf_lss]) ?_
  have loop : ∀ (m k : Nat), k + m = 10 → tf_K x 0 0 (tf_GG N) (cW S 5 57 k) 10 [some (.ref 32), some (.ref 84), some (.int (nI k))] [] := by
    intro m
    induction m with
    | zero =>
      intro k hk
      refine tf_go hx ftX9_copyFrom 2 [] 13 [some (.ref 32), some (.ref 84), some (.int (nI k))] [.int 10, .int (nI k)] (cW S 5 57 k) rfl ⟨by decide, by decide, rfl⟩ trivial ?_
      refine tf_go hx ftX9_copyFrom 1 [true] 49 [some (.ref 32), some (.ref 84), some (.int (nI k))] [] (cW S 5 57 k) rfl ⟨by decide, by decide, rfl⟩ ⟨trivial, (tf_leT (a := 10) (b := k) (rfl : (10 : Int32) = nI 10) rfl (by omega) (by omega) (by omega))⟩ ?_
      exact tf_ret ftX9_copyFrom hR rfl ⟨by decide, by decide⟩ rfl (by rw [show k = 10 by omega]) rfl
    | succ m ih =>
      intro k hk
      refine tf_go hx ftX9_copyFrom 2 [] 13 [some (.ref 32), some (.ref 84), some (.int (nI k))] [.int 10, .int (nI k)] (cW S 5 57 k) rfl ⟨by decide, by decide, rfl⟩ trivial ?_
      refine tf_go hx ftX9_copyFrom 1 [false] 16 [some (.ref 32), some (.ref 84), some (.int (nI k))] [] (cW S 5 57 k) rfl ⟨by decide, by decide, rfl⟩ ⟨trivial, (tf_leF (a := 10) (b := k) (rfl : (10 : Int32) = nI 10) rfl (by omega) (by omega) (by omega))⟩ ?_
      have k10 : k < 10 := by omega
      obtain ⟨m8, hm8, hsz⟩ := hm k k10
      obtain ⟨a1, a2, a3⟩ := wdn (N := N) k10
      obtain ⟨b1, b2, b3⟩ := wdk (N := N) k10
      have fr : ∀ a, 84 ≤ a → a ≤ 106 → (cW S 5 57 k) a = S a := fun a h1 h2 => cW_fr (by omega) (by omega)
      have ar : tf_rf (tf_GG N) 33 (Int32.toNatClampNeg (nI k)) = 34 + 2 * k := by rw [tf_cl_nI (by omega)]; exact a3
      have arn : tf_rf (tf_GG N) 33 (Int32.toNatClampNeg (nI k)) ≠ 0 := by rw [ar]; omega
      refine tf_go hx ftX9_copyFrom 4 [] 22 [some (.ref 32), some (.ref 84), some (.int (nI k))] [.ref (tf_rf (tf_GG N) 33 (Int32.toNatClampNeg (nI k)))] (cW S 5 57 k) rfl ⟨by decide, by decide, rfl⟩ ⟨⟨trivial, ⟨by first | assumption | rfl | decide | omega | exact Nat.succ_ne_zero _, by first | assumption | rfl | decide | omega | exact Nat.succ_ne_zero _⟩⟩, ⟨by first | assumption | exact Or.inl rfl | exact Or.inr (Or.inl rfl) | exact Or.inr (Or.inr rfl) | omega, by exact tf_in (n := k) (N := 10) rfl (by first | assumption | rfl) (by omega) (by decide), by first | assumption | rfl | decide | omega | exact Nat.succ_ne_zero _⟩⟩ ?_
      rw [ar]
      clear ar arn
      have ar : tf_rf (tf_GG N) 85 (Int32.toNatClampNeg (nI k)) = 86 + 2 * k := by rw [tf_cl_nI (by omega)]; exact b3
      have arn : tf_rf (tf_GG N) 85 (Int32.toNatClampNeg (nI k)) ≠ 0 := by rw [ar]; omega
      refine tf_go hx ftX9_copyFrom 4 [] 28 [some (.ref 32), some (.ref 84), some (.int (nI k))] [.ref (tf_rf (tf_GG N) 85 (Int32.toNatClampNeg (nI k))), .ref (34 + 2 * k)] (cW S 5 57 k) rfl ⟨by decide, by decide, rfl⟩ ⟨⟨trivial, ⟨by first | assumption | rfl | decide | omega | exact Nat.succ_ne_zero _, by first | assumption | rfl | decide | omega | exact Nat.succ_ne_zero _⟩⟩, ⟨by first | assumption | exact Or.inl rfl | exact Or.inr (Or.inl rfl) | exact Or.inr (Or.inr rfl) | omega, by exact tf_in (n := k) (N := 10) rfl (by first | assumption | rfl) (by omega) (by decide), by first | assumption | rfl | decide | omega | exact Nat.succ_ne_zero _⟩⟩ ?_
      rw [ar]
      clear ar arn
      have t3 : tf_tg (tf_GG N) (34 + 2 * k) = 3 := a1.1
      have hs2 : (cW S 5 57 k) (86 + 2 * k) 1 = nI m8 := by rw [fr _ (by omega) (by omega)]; exact hsz
      have ce : tf_wr (cW S 5 57 k) (34 + 2 * k) (35 + 2 * k) m8 (fun j => (cW S 5 57 k) (87 + 2 * k) j) = (cS (cW S 5 57 k) (34 + 2 * k) (86 + 2 * k)) := by unfold cS; rw [hs2, tf_cl_nI (by omega), show 34 + 2 * k + 1 = 35 + 2 * k by omega, show 86 + 2 * k + 1 = 87 + 2 * k by omega]
      refine tf_cV hx ftX9_copyFrom (nx := 31) (As := [.ref (86 + 2 * k)]) (rest := []) (st2 := []) ((by have h := c_copyFrom (S := (cW S 5 57 k)) (n := m8) a1 b1 hs2 hm8 hm8 (by omega) (by rw [a2]; omega) (by rw [b2]; omega) (by rw [a2, b2]; omega); rw [a2, b2, ce] at h; exact h)) rfl lX9_58 (by first | assumption | rfl | decide) rfl ⟨rfl, by decide, by decide, by decide, rfl, rfl⟩ ?_
      refine tf_go hx ftX9_copyFrom 6 [] 41 [some (.ref 32), some (.ref 84), some (.int (nI k))] [.int (nI k), .ref 106, .int (nI k), .ref 54] (cS (cW S 5 57 k) (34 + 2 * k) (86 + 2 * k)) rfl ⟨by decide, by decide, rfl⟩ ⟨⟨trivial, ⟨by first | assumption | rfl | decide | omega | exact Nat.succ_ne_zero _, by first | assumption | rfl | decide | omega | exact Nat.succ_ne_zero _⟩⟩, ⟨by first | assumption | rfl | decide | omega | exact Nat.succ_ne_zero _, by first | assumption | rfl | decide | omega | exact Nat.succ_ne_zero _⟩⟩ ?_
      have pe : (cS (cW S 5 57 k) (34 + 2 * k) (86 + 2 * k)) 106 (Int32.toNatClampNeg (nI k)) = (cW S 5 57 k) 106 k := by rw [tf_cl_nI (by omega), cS_fr (by omega) (by omega)]
      refine tf_go hx ftX9_copyFrom 1 [] 42 [some (.ref 32), some (.ref 84), some (.int (nI k))] [.int ((cS (cW S 5 57 k) (34 + 2 * k) (86 + 2 * k)) 106 (Int32.toNatClampNeg (nI k))), .int (nI k), .ref 54] (cS (cW S 5 57 k) (34 + 2 * k) (86 + 2 * k)) rfl ⟨by decide, by decide, rfl⟩ ⟨trivial, ⟨Or.inl (by first | assumption | rfl | decide | omega | exact Nat.succ_ne_zero _), by exact tf_in (n := k) (N := 10) rfl (by first | assumption | rfl) (by omega) (by decide)⟩⟩ ?_
      rw [pe]
      refine tf_go hx ftX9_copyFrom 1 [] 43 [some (.ref 32), some (.ref 84), some (.int (nI k))] [] (tf_set (cS (cW S 5 57 k) (34 + 2 * k) (86 + 2 * k)) 54 (Int32.toNatClampNeg (nI k)) ((cW S 5 57 k) 106 k)) rfl ⟨by decide, by decide, rfl⟩ ⟨trivial, ⟨by first | assumption | rfl | decide | omega | exact Nat.succ_ne_zero _, by exact tf_in (n := k) (N := 10) rfl (by first | assumption | rfl) (by omega) (by decide)⟩⟩ ?_
      rw [show Int32.toNatClampNeg (nI k) = k from tf_cln rfl (by omega)]
      show tf_K x 0 0 (tf_GG N) (cW S 5 57 (k + 1)) 43 [some (.ref 32), some (.ref 84), some (.int (nI k))] []
      refine tf_go hx ftX9_copyFrom 2 [] 10 [some (.ref 32), some (.ref 84), some (.int ((nI k) + 1))] [] (cW S 5 57 (k + 1)) rfl ⟨by decide, by decide, rfl⟩ trivial ?_
      rw [show ((nI k) + 1) = nI (k + 1) from (tf_add (a := k) (b := 1) rfl (rfl : (1 : Int32) = nI 1))]
      exact ih (k + 1) (by omega)
  exact loop 10 0 (by omega)

set_option maxHeartbeats 1000000 in
theorem s_copyn {N : Nat} {S : tf_Sg} {f : Nat → Nat} (hS : tf_st S 57 f) (hg : tf_gd f) : tf_Fn mX7_copyFrom 4 0 0 (tf_GG N) S [.ref 5, .ref 57] (tf_GG N) (cA S 5 57 f) none := by
  refine tf_Fn_of (own := RX7) false ⟨by decide, rfl, by decide⟩ (Nat.le_of_ble_eq_true rfl) trivial (fun x hx hR => ?_)
  show tf_K x 0 0 (tf_GG N) S 0 [some (.ref 5), some (.ref 57), none] []
  have e1 : ∀ k, k ≤ 4 → ∀ a, 57 ≤ a → a < 109 → (cB S 5 f k) a = S a := fun k hk a h1 h2 => cB_fr (by omega)
  have e2 : ∀ k, k ≤ 4 → ∀ a, 57 ≤ a → a < 109 → (cH (cB S 5 f 4) 5 57 k) a = S a := fun k hk a h1 h2 => by rw [cH_fr (by omega)]; exact e1 4 (Nat.le_refl _) a h1 h2
  refine tf_go hx ftX7_copyFrom 2 [] 2 [some (.ref 5), some (.ref 57), some (.int 0)] [] S rfl ⟨by decide, by decide, rfl⟩ trivial ?_
  have loop : ∀ (m k : Nat), k + m = 4 → tf_K x 0 0 (tf_GG N) (cB S 5 f k) 2 [some (.ref 5), some (.ref 57), some (.int (nI k))] [] := by
    intro m
    induction m with
    | zero =>
      intro k hk
      refine tf_go hx ftX7_copyFrom 2 [] 4 [some (.ref 5), some (.ref 57), some (.int (nI k))] [.int 4, .int (nI k)] (cB S 5 f k) rfl ⟨by decide, by decide, rfl⟩ trivial ?_
      refine tf_go hx ftX7_copyFrom 1 [true] 28 [some (.ref 5), some (.ref 57), some (.int (nI k))] [] (cB S 5 f k) rfl ⟨by decide, by decide, rfl⟩ ⟨trivial, (tf_leT (a := 4) (b := k) (rfl : (4 : Int32) = nI 4) rfl (by omega) (by omega) (by omega))⟩ ?_
      rw [show k = 4 by omega]
      refine tf_go hx ftX7_copyFrom 2 [] 30 [some (.ref 5), some (.ref 57), some (.int 0)] [] (cB S 5 f 4) rfl ⟨by decide, by decide, rfl⟩ trivial ?_
      refine tf_fgt [some (.ref 5), some (.ref 57), some (.int 0)] (by simp [tf_lss]) ?_
      have loop2 : ∀ (m k : Nat), k + m = 4 → tf_K x 0 0 (tf_GG N) (cH (cB S 5 f 4) 5 57 k) 30 [some (.ref 5), some (.ref 57), some (.int (nI k))] [] := by
        intro m
        induction m with
        | zero =>
          intro k hk
          refine tf_go hx ftX7_copyFrom 2 [] 32 [some (.ref 5), some (.ref 57), some (.int (nI k))] [.int 4, .int (nI k)] (cH (cB S 5 f 4) 5 57 k) rfl ⟨by decide, by decide, rfl⟩ trivial ?_
          refine tf_go hx ftX7_copyFrom 1 [true] 56 [some (.ref 5), some (.ref 57), some (.int (nI k))] [] (cH (cB S 5 f 4) 5 57 k) rfl ⟨by decide, by decide, rfl⟩ ⟨trivial, (tf_leT (a := 4) (b := k) (rfl : (4 : Int32) = nI 4) rfl (by omega) (by omega) (by omega))⟩ ?_
          rw [show k = 4 by omega]
          have g := hg.1
          have hs23 : (cH (cB S 5 f 4) 5 57 4) 80 1 = nI (f 364) := by rw [e2 4 (Nat.le_refl _) _ (by decide) (by decide)]; exact hS.2.2.1.1
          have ce23 : tf_wr (cH (cB S 5 f 4) 5 57 4) 28 29 (f 364) (fun j => (cH (cB S 5 f 4) 5 57 4) 81 j) = (cS (cH (cB S 5 f 4) 5 57 4) 28 80) := (cS_n (o := 28) hs23 (by omega)).symm
          refine tf_go hx ftX7_copyFrom 4 [] 64 [some (.ref 5), some (.ref 57), some (.int (nI 4))] [.ref 80, .ref 28] (cH (cB S 5 f 4) 5 57 4) rfl ⟨by decide, by decide, rfl⟩ ⟨⟨trivial, ⟨by first | assumption | rfl | decide | omega | exact Nat.succ_ne_zero _, by first | assumption | rfl | decide | omega | exact Nat.succ_ne_zero _⟩⟩, ⟨by first | assumption | rfl | decide | omega | exact Nat.succ_ne_zero _, by first | assumption | rfl | decide | omega | exact Nat.succ_ne_zero _⟩⟩ ?_
          refine tf_cV hx ftX7_copyFrom (nx := 67) (As := [.ref 80]) (rest := []) (st2 := []) ((show tf_Fn mX5_copyFrom 2 0 0 (tf_GG N) (cH (cB S 5 f 4) 5 57 4) [.ref 28, .ref 80] (tf_GG N) (cS (cH (cB S 5 f 4) 5 57 4) 28 80) none by rw [← ce23]; exact c_copyFrom (S := (cH (cB S 5 f 4) 5 57 4)) (o := 28) (p := 80) (n := f 364) (se28 (N := N)) (se80 (N := N)) hs23 (by omega) (by omega) (by decide) (by show 80 ≠ 29; decide) (by show 81 ≠ 28; decide) (by show 81 ≠ 29; decide))) rfl lX7_54 (by first | assumption | rfl | decide) rfl ⟨rfl, by decide, by decide, by decide, rfl, rfl⟩ ?_
          have hs25 : (cS (cH (cB S 5 f 4) 5 57 4) 28 80) 82 1 = nI (f 365) := by rw [cS_fr (by decide) (by decide), e2 4 (Nat.le_refl _) _ (by decide) (by decide)]; exact hS.2.2.2.1.1
          have ce25 : tf_wr (cS (cH (cB S 5 f 4) 5 57 4) 28 80) 30 31 (f 365) (fun j => (cS (cH (cB S 5 f 4) 5 57 4) 28 80) 83 j) = (cS (cS (cH (cB S 5 f 4) 5 57 4) 28 80) 30 82) := (cS_n (o := 30) hs25 (by omega)).symm
          refine tf_go hx ftX7_copyFrom 4 [] 75 [some (.ref 5), some (.ref 57), some (.int (nI 4))] [.ref 82, .ref 30] (cS (cH (cB S 5 f 4) 5 57 4) 28 80) rfl ⟨by decide, by decide, rfl⟩ ⟨⟨trivial, ⟨by first | assumption | rfl | decide | omega | exact Nat.succ_ne_zero _, by first | assumption | rfl | decide | omega | exact Nat.succ_ne_zero _⟩⟩, ⟨by first | assumption | rfl | decide | omega | exact Nat.succ_ne_zero _, by first | assumption | rfl | decide | omega | exact Nat.succ_ne_zero _⟩⟩ ?_
          refine tf_cV hx ftX7_copyFrom (nx := 78) (As := [.ref 82]) (rest := []) (st2 := []) ((show tf_Fn mX5_copyFrom 2 0 0 (tf_GG N) (cS (cH (cB S 5 f 4) 5 57 4) 28 80) [.ref 30, .ref 82] (tf_GG N) (cS (cS (cH (cB S 5 f 4) 5 57 4) 28 80) 30 82) none by rw [← ce25]; exact c_copyFrom (S := (cS (cH (cB S 5 f 4) 5 57 4) 28 80)) (o := 30) (p := 82) (n := f 365) (se30 (N := N)) (se82 (N := N)) hs25 (by omega) (by omega) (by decide) (by show 82 ≠ 31; decide) (by show 83 ≠ 30; decide) (by show 83 ≠ 31; decide))) rfl lX7_54 (by first | assumption | rfl | decide) rfl ⟨rfl, by decide, by decide, by decide, rfl, rfl⟩ ?_
          have hm : ∀ w, w < 10 → ∃ m, m ≤ 8 ∧ (cS (cS (cH (cB S 5 f 4) 5 57 4) 28 80) 30 82) (86 + 2 * w) 1 = nI m := fun w hw => by rw [cS_fr (by omega) (by omega), cS_fr (by omega) (by omega), e2 4 (Nat.le_refl _) _ (by omega) (by omega)]; exact hS.2.2.2.2.1.2.2 w hw
          refine tf_go hx ftX7_copyFrom 4 [] 86 [some (.ref 5), some (.ref 57), some (.int (nI 4))] [.ref 84, .ref 32] (cS (cS (cH (cB S 5 f 4) 5 57 4) 28 80) 30 82) rfl ⟨by decide, by decide, rfl⟩ ⟨⟨trivial, ⟨by first | assumption | rfl | decide | omega | exact Nat.succ_ne_zero _, by first | assumption | rfl | decide | omega | exact Nat.succ_ne_zero _⟩⟩, ⟨by first | assumption | rfl | decide | omega | exact Nat.succ_ne_zero _, by first | assumption | rfl | decide | omega | exact Nat.succ_ne_zero _⟩⟩ ?_
          refine tf_cV hx ftX7_copyFrom (nx := 89) (As := [.ref 84]) (rest := []) (st2 := []) (w_copyn hm) rfl lX7_57 (by first | assumption | rfl | decide) rfl ⟨rfl, by decide, by decide, by decide, rfl, rfl⟩ ?_
          have hs50 : (cW (cS (cS (cH (cB S 5 f 4) 5 57 4) 28 80) 30 82) 5 57 10) 107 1 = nI (f 367) := by rw [cW_fr (Nat.le_refl _) (by omega), cS_fr (by decide) (by decide), cS_fr (by decide) (by decide), e2 4 (Nat.le_refl _) _ (by decide) (by decide)]; exact hS.2.2.2.2.2.1
          have ce50 : tf_wr (cW (cS (cS (cH (cB S 5 f 4) 5 57 4) 28 80) 30 82) 5 57 10) 55 56 (f 367) (fun j => (cW (cS (cS (cH (cB S 5 f 4) 5 57 4) 28 80) 30 82) 5 57 10) 108 j) = (cS (cW (cS (cS (cH (cB S 5 f 4) 5 57 4) 28 80) 30 82) 5 57 10) 55 107) := (cS_n (o := 55) hs50 (by omega)).symm
          refine tf_go hx ftX7_copyFrom 4 [] 97 [some (.ref 5), some (.ref 57), some (.int (nI 4))] [.ref 107, .ref 55] (cW (cS (cS (cH (cB S 5 f 4) 5 57 4) 28 80) 30 82) 5 57 10) rfl ⟨by decide, by decide, rfl⟩ ⟨⟨trivial, ⟨by first | assumption | rfl | decide | omega | exact Nat.succ_ne_zero _, by first | assumption | rfl | decide | omega | exact Nat.succ_ne_zero _⟩⟩, ⟨by first | assumption | rfl | decide | omega | exact Nat.succ_ne_zero _, by first | assumption | rfl | decide | omega | exact Nat.succ_ne_zero _⟩⟩ ?_
          refine tf_cV hx ftX7_copyFrom (nx := 100) (As := [.ref 107]) (rest := []) (st2 := []) ((show tf_Fn mX5_copyFrom 2 0 0 (tf_GG N) (cW (cS (cS (cH (cB S 5 f 4) 5 57 4) 28 80) 30 82) 5 57 10) [.ref 55, .ref 107] (tf_GG N) (cS (cW (cS (cS (cH (cB S 5 f 4) 5 57 4) 28 80) 30 82) 5 57 10) 55 107) none by rw [← ce50]; exact c_copyFrom (S := (cW (cS (cS (cH (cB S 5 f 4) 5 57 4) 28 80) 30 82) 5 57 10)) (o := 55) (p := 107) (n := f 367) (se55 (N := N)) (se107 (N := N)) hs50 (by omega) (by omega) (by decide) (by show 107 ≠ 56; decide) (by show 108 ≠ 55; decide) (by show 108 ≠ 56; decide))) rfl lX7_54 (by first | assumption | rfl | decide) rfl ⟨rfl, by decide, by decide, by decide, rfl, rfl⟩ ?_
          exact tf_ret ftX7_copyFrom hR rfl ⟨by decide, by decide⟩ rfl rfl rfl
        | succ m ih =>
          intro k hk
          refine tf_go hx ftX7_copyFrom 2 [] 32 [some (.ref 5), some (.ref 57), some (.int (nI k))] [.int 4, .int (nI k)] (cH (cB S 5 f 4) 5 57 k) rfl ⟨by decide, by decide, rfl⟩ trivial ?_
          refine tf_go hx ftX7_copyFrom 1 [false] 35 [some (.ref 5), some (.ref 57), some (.int (nI k))] [] (cH (cB S 5 f 4) 5 57 k) rfl ⟨by decide, by decide, rfl⟩ ⟨trivial, (tf_leF (a := 4) (b := k) (rfl : (4 : Int32) = nI 4) rfl (by omega) (by omega) (by omega))⟩ ?_
          have k4 : k < 4 := by omega
          obtain ⟨a1, a2, a3⟩ := hdn (N := N) k4
          obtain ⟨b1, b2, b3⟩ := hdk (N := N) k4
          have ar : tf_rf (tf_GG N) 19 (Int32.toNatClampNeg (nI k)) = 20 + 2 * k := by rw [tf_cl_nI (by omega)]; exact a3
          have arn : tf_rf (tf_GG N) 19 (Int32.toNatClampNeg (nI k)) ≠ 0 := by rw [ar]; omega
          refine tf_go hx ftX7_copyFrom 4 [] 41 [some (.ref 5), some (.ref 57), some (.int (nI k))] [.ref (tf_rf (tf_GG N) 19 (Int32.toNatClampNeg (nI k)))] (cH (cB S 5 f 4) 5 57 k) rfl ⟨by decide, by decide, rfl⟩ ⟨⟨trivial, ⟨by first | assumption | rfl | decide | omega | exact Nat.succ_ne_zero _, by first | assumption | rfl | decide | omega | exact Nat.succ_ne_zero _⟩⟩, ⟨by first | assumption | exact Or.inl rfl | exact Or.inr (Or.inl rfl) | exact Or.inr (Or.inr rfl) | omega, by exact tf_in (n := k) (N := 4) rfl (by first | assumption | rfl) (by omega) (by decide), by first | assumption | rfl | decide | omega | exact Nat.succ_ne_zero _⟩⟩ ?_
          rw [ar]
          clear ar arn
          have ar : tf_rf (tf_GG N) 71 (Int32.toNatClampNeg (nI k)) = 72 + 2 * k := by rw [tf_cl_nI (by omega)]; exact b3
          have arn : tf_rf (tf_GG N) 71 (Int32.toNatClampNeg (nI k)) ≠ 0 := by rw [ar]; omega
          refine tf_go hx ftX7_copyFrom 4 [] 47 [some (.ref 5), some (.ref 57), some (.int (nI k))] [.ref (tf_rf (tf_GG N) 71 (Int32.toNatClampNeg (nI k))), .ref (20 + 2 * k)] (cH (cB S 5 f 4) 5 57 k) rfl ⟨by decide, by decide, rfl⟩ ⟨⟨trivial, ⟨by first | assumption | rfl | decide | omega | exact Nat.succ_ne_zero _, by first | assumption | rfl | decide | omega | exact Nat.succ_ne_zero _⟩⟩, ⟨by first | assumption | exact Or.inl rfl | exact Or.inr (Or.inl rfl) | exact Or.inr (Or.inr rfl) | omega, by exact tf_in (n := k) (N := 4) rfl (by first | assumption | rfl) (by omega) (by decide), by first | assumption | rfl | decide | omega | exact Nat.succ_ne_zero _⟩⟩ ?_
          rw [ar]
          clear ar arn
          have t3 : tf_tg (tf_GG N) (20 + 2 * k) = 1 := a1.1
          refine tf_cV hx ftX7_copyFrom (nx := 50) (As := [.ref (72 + 2 * k)]) (rest := []) (st2 := []) ((by have h := h_copyFrom (S := (cH (cB S 5 f 4) 5 57 k)) a1 b1 (by rw [a2, b2]; omega); rw [a2, b2] at h; exact h)) rfl lX7_51 (by first | assumption | rfl | decide) rfl ⟨rfl, by decide, by decide, by decide, rfl, rfl⟩ ?_
          refine tf_go hx ftX7_copyFrom 2 [] 30 [some (.ref 5), some (.ref 57), some (.int ((nI k) + 1))] [] (cH (cB S 5 f 4) 5 57 (k + 1)) rfl ⟨by decide, by decide, rfl⟩ trivial ?_
          rw [show ((nI k) + 1) = nI (k + 1) from (tf_add (a := k) (b := 1) rfl (rfl : (1 : Int32) = nI 1))]
          exact ih (k + 1) (by omega)
      exact loop2 4 0 (by omega)
    | succ m ih =>
      intro k hk
      refine tf_go hx ftX7_copyFrom 2 [] 4 [some (.ref 5), some (.ref 57), some (.int (nI k))] [.int 4, .int (nI k)] (cB S 5 f k) rfl ⟨by decide, by decide, rfl⟩ trivial ?_
      refine tf_go hx ftX7_copyFrom 1 [false] 7 [some (.ref 5), some (.ref 57), some (.int (nI k))] [] (cB S 5 f k) rfl ⟨by decide, by decide, rfl⟩ ⟨trivial, (tf_leF (a := 4) (b := k) (rfl : (4 : Int32) = nI 4) rfl (by omega) (by omega) (by omega))⟩ ?_
      have k4 : k < 4 := by omega
      obtain ⟨a1, a2, a22, a3⟩ := bdn (N := N) k4
      obtain ⟨b1, b2, b22, b3⟩ := bdk (N := N) k4
      have ar : tf_rf (tf_GG N) 6 (Int32.toNatClampNeg (nI k)) = 7 + 3 * k := by rw [tf_cl_nI (by omega)]; exact a3
      have arn : tf_rf (tf_GG N) 6 (Int32.toNatClampNeg (nI k)) ≠ 0 := by rw [ar]; omega
      refine tf_go hx ftX7_copyFrom 4 [] 13 [some (.ref 5), some (.ref 57), some (.int (nI k))] [.ref (tf_rf (tf_GG N) 6 (Int32.toNatClampNeg (nI k)))] (cB S 5 f k) rfl ⟨by decide, by decide, rfl⟩ ⟨⟨trivial, ⟨by first | assumption | rfl | decide | omega | exact Nat.succ_ne_zero _, by first | assumption | rfl | decide | omega | exact Nat.succ_ne_zero _⟩⟩, ⟨by first | assumption | exact Or.inl rfl | exact Or.inr (Or.inl rfl) | exact Or.inr (Or.inr rfl) | omega, by exact tf_in (n := k) (N := 4) rfl (by first | assumption | rfl) (by omega) (by decide), by first | assumption | rfl | decide | omega | exact Nat.succ_ne_zero _⟩⟩ ?_
      rw [ar]
      clear ar arn
      have ar : tf_rf (tf_GG N) 58 (Int32.toNatClampNeg (nI k)) = 59 + 3 * k := by rw [tf_cl_nI (by omega)]; exact b3
      have arn : tf_rf (tf_GG N) 58 (Int32.toNatClampNeg (nI k)) ≠ 0 := by rw [ar]; omega
      refine tf_go hx ftX7_copyFrom 4 [] 19 [some (.ref 5), some (.ref 57), some (.int (nI k))] [.ref (tf_rf (tf_GG N) 58 (Int32.toNatClampNeg (nI k))), .ref (7 + 3 * k)] (cB S 5 f k) rfl ⟨by decide, by decide, rfl⟩ ⟨⟨trivial, ⟨by first | assumption | rfl | decide | omega | exact Nat.succ_ne_zero _, by first | assumption | rfl | decide | omega | exact Nat.succ_ne_zero _⟩⟩, ⟨by first | assumption | exact Or.inl rfl | exact Or.inr (Or.inl rfl) | exact Or.inr (Or.inr rfl) | omega, by exact tf_in (n := k) (N := 4) rfl (by first | assumption | rfl) (by omega) (by decide), by first | assumption | rfl | decide | omega | exact Nat.succ_ne_zero _⟩⟩ ?_
      rw [ar]
      clear ar arn
      have t3 : tf_tg (tf_GG N) (7 + 3 * k) = 0 := a1.1
      have vk : ∀ j, j < 30 → f (30 * k + j) ≤ 26 := fun j hj => hg.2.2.2.2.2.2.1 _ (by omega)
      have dk : ∀ i j, i < j → j < 30 → f (30 * k + j) ≠ 0 → f (30 * k + i) ≠ f (30 * k + j) := fun i j hij hj h0 e => by have := hg.2.2.2.2.2.2.2 k k4 i j (by omega) hj e (by omega); omega
      have sk : ∀ j, j < 30 → (cB S 5 f k) (tf_rf (tf_GG N) (59 + 3 * k) 0) j = tf_vo (f (30 * k + j)) := fun j hj => by rw [b2, e1 k (by omega) _ (by omega) (by omega)]; exact (hS.1 k k4).1 j hj
      refine tf_cV hx ftX7_copyFrom (nx := 22) (As := [.ref (59 + 3 * k)]) (rest := []) (st2 := []) ((by have h := b_copyFrom (S := (cB S 5 f k)) (p := fun j => f (30 * k + j)) a1 b1 (by rw [a2, b2]; omega) (by rw [a22, b2]; omega) sk vk dk; rw [a2, a22] at h; exact h)) rfl lX7_47 (by first | assumption | rfl | decide) rfl ⟨rfl, by decide, by decide, by decide, rfl, rfl⟩ ?_
      refine tf_go hx ftX7_copyFrom 2 [] 2 [some (.ref 5), some (.ref 57), some (.int ((nI k) + 1))] [] (cB S 5 f (k + 1)) rfl ⟨by decide, by decide, rfl⟩ trivial ?_
      rw [show ((nI k) + 1) = nI (k + 1) from (tf_add (a := k) (b := 1) rfl (rfl : (1 : Int32) = nI 1))]
      exact ih (k + 1) (by omega)
  exact loop 4 0 (by omega)

set_option maxHeartbeats 1000000 in
theorem w_copyk {N : Nat} {S : tf_Sg} (hm : ∀ w, w < 10 → ∃ m, m ≤ 8 ∧ S (34 + 2 * w) 1 = nI m) : tf_Fn mX9_copyFrom 3 0 0 (tf_GG N) S [.ref 84, .ref 32] (tf_GG N) (cW S 57 5 10) none := by
  refine tf_Fn_of (own := RX9) false ⟨by decide, rfl, by decide⟩ (Nat.le_of_ble_eq_true rfl) trivial (fun x hx hR => ?_)
  show tf_K x 0 0 (tf_GG N) S 0 [some (.ref 84), some (.ref 32), none] []
  refine tf_go hx ftX9_copyFrom 4 [] 8 [some (.ref 84), some (.ref 32), none] [] (tf_set S 84 2 (S 32 2)) rfl ⟨by decide, by decide, rfl⟩ ⟨⟨trivial, (by first | assumption | rfl | decide | omega | exact Nat.succ_ne_zero _)⟩, (by first | assumption | rfl | decide | omega | exact Nat.succ_ne_zero _)⟩ ?_
  refine tf_go hx ftX9_copyFrom 2 [] 10 [some (.ref 84), some (.ref 32), some (.int 0)] [] (tf_set S 84 2 (S 32 2)) rfl ⟨by decide, by decide, rfl⟩ trivial ?_
  show tf_K x 0 0 (tf_GG N) (cW S 57 5 0) 10 [some (.ref 84), some (.ref 32), some (.int 0)] []
  refine tf_fgt [some (.ref 84), some (.ref 32), some (.int 0)] (by simp [tf_lss]) ?_
  have loop : ∀ (m k : Nat), k + m = 10 → tf_K x 0 0 (tf_GG N) (cW S 57 5 k) 10 [some (.ref 84), some (.ref 32), some (.int (nI k))] [] := by
    intro m
    induction m with
    | zero =>
      intro k hk
      refine tf_go hx ftX9_copyFrom 2 [] 13 [some (.ref 84), some (.ref 32), some (.int (nI k))] [.int 10, .int (nI k)] (cW S 57 5 k) rfl ⟨by decide, by decide, rfl⟩ trivial ?_
      refine tf_go hx ftX9_copyFrom 1 [true] 49 [some (.ref 84), some (.ref 32), some (.int (nI k))] [] (cW S 57 5 k) rfl ⟨by decide, by decide, rfl⟩ ⟨trivial, (tf_leT (a := 10) (b := k) (rfl : (10 : Int32) = nI 10) rfl (by omega) (by omega) (by omega))⟩ ?_
      exact tf_ret ftX9_copyFrom hR rfl ⟨by decide, by decide⟩ rfl (by rw [show k = 10 by omega]) rfl
    | succ m ih =>
      intro k hk
      refine tf_go hx ftX9_copyFrom 2 [] 13 [some (.ref 84), some (.ref 32), some (.int (nI k))] [.int 10, .int (nI k)] (cW S 57 5 k) rfl ⟨by decide, by decide, rfl⟩ trivial ?_
      refine tf_go hx ftX9_copyFrom 1 [false] 16 [some (.ref 84), some (.ref 32), some (.int (nI k))] [] (cW S 57 5 k) rfl ⟨by decide, by decide, rfl⟩ ⟨trivial, (tf_leF (a := 10) (b := k) (rfl : (10 : Int32) = nI 10) rfl (by omega) (by omega) (by omega))⟩ ?_
      have k10 : k < 10 := by omega
      obtain ⟨m8, hm8, hsz⟩ := hm k k10
      obtain ⟨a1, a2, a3⟩ := wdk (N := N) k10
      obtain ⟨b1, b2, b3⟩ := wdn (N := N) k10
      have fr : ∀ a, 32 ≤ a → a ≤ 54 → (cW S 57 5 k) a = S a := fun a h1 h2 => cW_fr (by omega) (by omega)
      have ar : tf_rf (tf_GG N) 85 (Int32.toNatClampNeg (nI k)) = 86 + 2 * k := by rw [tf_cl_nI (by omega)]; exact a3
      have arn : tf_rf (tf_GG N) 85 (Int32.toNatClampNeg (nI k)) ≠ 0 := by rw [ar]; omega
      refine tf_go hx ftX9_copyFrom 4 [] 22 [some (.ref 84), some (.ref 32), some (.int (nI k))] [.ref (tf_rf (tf_GG N) 85 (Int32.toNatClampNeg (nI k)))] (cW S 57 5 k) rfl ⟨by decide, by decide, rfl⟩ ⟨⟨trivial, ⟨by first | assumption | rfl | decide | omega | exact Nat.succ_ne_zero _, by first | assumption | rfl | decide | omega | exact Nat.succ_ne_zero _⟩⟩, ⟨by first | assumption | exact Or.inl rfl | exact Or.inr (Or.inl rfl) | exact Or.inr (Or.inr rfl) | omega, by exact tf_in (n := k) (N := 10) rfl (by first | assumption | rfl) (by omega) (by decide), by first | assumption | rfl | decide | omega | exact Nat.succ_ne_zero _⟩⟩ ?_
      rw [ar]
      clear ar arn
      have ar : tf_rf (tf_GG N) 33 (Int32.toNatClampNeg (nI k)) = 34 + 2 * k := by rw [tf_cl_nI (by omega)]; exact b3
      have arn : tf_rf (tf_GG N) 33 (Int32.toNatClampNeg (nI k)) ≠ 0 := by rw [ar]; omega
      refine tf_go hx ftX9_copyFrom 4 [] 28 [some (.ref 84), some (.ref 32), some (.int (nI k))] [.ref (tf_rf (tf_GG N) 33 (Int32.toNatClampNeg (nI k))), .ref (86 + 2 * k)] (cW S 57 5 k) rfl ⟨by decide, by decide, rfl⟩ ⟨⟨trivial, ⟨by first | assumption | rfl | decide | omega | exact Nat.succ_ne_zero _, by first | assumption | rfl | decide | omega | exact Nat.succ_ne_zero _⟩⟩, ⟨by first | assumption | exact Or.inl rfl | exact Or.inr (Or.inl rfl) | exact Or.inr (Or.inr rfl) | omega, by exact tf_in (n := k) (N := 10) rfl (by first | assumption | rfl) (by omega) (by decide), by first | assumption | rfl | decide | omega | exact Nat.succ_ne_zero _⟩⟩ ?_
      rw [ar]
      clear ar arn
      have t3 : tf_tg (tf_GG N) (86 + 2 * k) = 3 := a1.1
      have hs2 : (cW S 57 5 k) (34 + 2 * k) 1 = nI m8 := by rw [fr _ (by omega) (by omega)]; exact hsz
      have ce : tf_wr (cW S 57 5 k) (86 + 2 * k) (87 + 2 * k) m8 (fun j => (cW S 57 5 k) (35 + 2 * k) j) = (cS (cW S 57 5 k) (86 + 2 * k) (34 + 2 * k)) := by unfold cS; rw [hs2, tf_cl_nI (by omega), show 86 + 2 * k + 1 = 87 + 2 * k by omega, show 34 + 2 * k + 1 = 35 + 2 * k by omega]
      refine tf_cV hx ftX9_copyFrom (nx := 31) (As := [.ref (34 + 2 * k)]) (rest := []) (st2 := []) ((by have h := c_copyFrom (S := (cW S 57 5 k)) (n := m8) a1 b1 hs2 hm8 hm8 (by omega) (by rw [a2]; omega) (by rw [b2]; omega) (by rw [a2, b2]; omega); rw [a2, b2, ce] at h; exact h)) rfl lX9_58 (by first | assumption | rfl | decide) rfl ⟨rfl, by decide, by decide, by decide, rfl, rfl⟩ ?_
      refine tf_go hx ftX9_copyFrom 6 [] 41 [some (.ref 84), some (.ref 32), some (.int (nI k))] [.int (nI k), .ref 54, .int (nI k), .ref 106] (cS (cW S 57 5 k) (86 + 2 * k) (34 + 2 * k)) rfl ⟨by decide, by decide, rfl⟩ ⟨⟨trivial, ⟨by first | assumption | rfl | decide | omega | exact Nat.succ_ne_zero _, by first | assumption | rfl | decide | omega | exact Nat.succ_ne_zero _⟩⟩, ⟨by first | assumption | rfl | decide | omega | exact Nat.succ_ne_zero _, by first | assumption | rfl | decide | omega | exact Nat.succ_ne_zero _⟩⟩ ?_
      have pe : (cS (cW S 57 5 k) (86 + 2 * k) (34 + 2 * k)) 54 (Int32.toNatClampNeg (nI k)) = (cW S 57 5 k) 54 k := by rw [tf_cl_nI (by omega), cS_fr (by omega) (by omega)]
      refine tf_go hx ftX9_copyFrom 1 [] 42 [some (.ref 84), some (.ref 32), some (.int (nI k))] [.int ((cS (cW S 57 5 k) (86 + 2 * k) (34 + 2 * k)) 54 (Int32.toNatClampNeg (nI k))), .int (nI k), .ref 106] (cS (cW S 57 5 k) (86 + 2 * k) (34 + 2 * k)) rfl ⟨by decide, by decide, rfl⟩ ⟨trivial, ⟨Or.inl (by first | assumption | rfl | decide | omega | exact Nat.succ_ne_zero _), by exact tf_in (n := k) (N := 10) rfl (by first | assumption | rfl) (by omega) (by decide)⟩⟩ ?_
      rw [pe]
      refine tf_go hx ftX9_copyFrom 1 [] 43 [some (.ref 84), some (.ref 32), some (.int (nI k))] [] (tf_set (cS (cW S 57 5 k) (86 + 2 * k) (34 + 2 * k)) 106 (Int32.toNatClampNeg (nI k)) ((cW S 57 5 k) 54 k)) rfl ⟨by decide, by decide, rfl⟩ ⟨trivial, ⟨by first | assumption | rfl | decide | omega | exact Nat.succ_ne_zero _, by exact tf_in (n := k) (N := 10) rfl (by first | assumption | rfl) (by omega) (by decide)⟩⟩ ?_
      rw [show Int32.toNatClampNeg (nI k) = k from tf_cln rfl (by omega)]
      show tf_K x 0 0 (tf_GG N) (cW S 57 5 (k + 1)) 43 [some (.ref 84), some (.ref 32), some (.int (nI k))] []
      refine tf_go hx ftX9_copyFrom 2 [] 10 [some (.ref 84), some (.ref 32), some (.int ((nI k) + 1))] [] (cW S 57 5 (k + 1)) rfl ⟨by decide, by decide, rfl⟩ trivial ?_
      rw [show ((nI k) + 1) = nI (k + 1) from (tf_add (a := k) (b := 1) rfl (rfl : (1 : Int32) = nI 1))]
      exact ih (k + 1) (by omega)
  exact loop 10 0 (by omega)

set_option maxHeartbeats 1000000 in
theorem s_copyk {N : Nat} {S : tf_Sg} {f : Nat → Nat} (hS : tf_st S 5 f) (hg : tf_gd f) : tf_Fn mX7_copyFrom 4 0 0 (tf_GG N) S [.ref 57, .ref 5] (tf_GG N) (cA S 57 5 f) none := by
  refine tf_Fn_of (own := RX7) false ⟨by decide, rfl, by decide⟩ (Nat.le_of_ble_eq_true rfl) trivial (fun x hx hR => ?_)
  show tf_K x 0 0 (tf_GG N) S 0 [some (.ref 57), some (.ref 5), none] []
  have e1 : ∀ k, k ≤ 4 → ∀ a, 5 ≤ a → a < 57 → (cB S 57 f k) a = S a := fun k hk a h1 h2 => cB_fr (by omega)
  have e2 : ∀ k, k ≤ 4 → ∀ a, 5 ≤ a → a < 57 → (cH (cB S 57 f 4) 57 5 k) a = S a := fun k hk a h1 h2 => by rw [cH_fr (by omega)]; exact e1 4 (Nat.le_refl _) a h1 h2
  refine tf_go hx ftX7_copyFrom 2 [] 2 [some (.ref 57), some (.ref 5), some (.int 0)] [] S rfl ⟨by decide, by decide, rfl⟩ trivial ?_
  have loop : ∀ (m k : Nat), k + m = 4 → tf_K x 0 0 (tf_GG N) (cB S 57 f k) 2 [some (.ref 57), some (.ref 5), some (.int (nI k))] [] := by
    intro m
    induction m with
    | zero =>
      intro k hk
      refine tf_go hx ftX7_copyFrom 2 [] 4 [some (.ref 57), some (.ref 5), some (.int (nI k))] [.int 4, .int (nI k)] (cB S 57 f k) rfl ⟨by decide, by decide, rfl⟩ trivial ?_
      refine tf_go hx ftX7_copyFrom 1 [true] 28 [some (.ref 57), some (.ref 5), some (.int (nI k))] [] (cB S 57 f k) rfl ⟨by decide, by decide, rfl⟩ ⟨trivial, (tf_leT (a := 4) (b := k) (rfl : (4 : Int32) = nI 4) rfl (by omega) (by omega) (by omega))⟩ ?_
      rw [show k = 4 by omega]
      refine tf_go hx ftX7_copyFrom 2 [] 30 [some (.ref 57), some (.ref 5), some (.int 0)] [] (cB S 57 f 4) rfl ⟨by decide, by decide, rfl⟩ trivial ?_
      refine tf_fgt [some (.ref 57), some (.ref 5), some (.int 0)] (by simp [tf_lss]) ?_
      have loop2 : ∀ (m k : Nat), k + m = 4 → tf_K x 0 0 (tf_GG N) (cH (cB S 57 f 4) 57 5 k) 30 [some (.ref 57), some (.ref 5), some (.int (nI k))] [] := by
        intro m
        induction m with
        | zero =>
          intro k hk
          refine tf_go hx ftX7_copyFrom 2 [] 32 [some (.ref 57), some (.ref 5), some (.int (nI k))] [.int 4, .int (nI k)] (cH (cB S 57 f 4) 57 5 k) rfl ⟨by decide, by decide, rfl⟩ trivial ?_
          refine tf_go hx ftX7_copyFrom 1 [true] 56 [some (.ref 57), some (.ref 5), some (.int (nI k))] [] (cH (cB S 57 f 4) 57 5 k) rfl ⟨by decide, by decide, rfl⟩ ⟨trivial, (tf_leT (a := 4) (b := k) (rfl : (4 : Int32) = nI 4) rfl (by omega) (by omega) (by omega))⟩ ?_
          rw [show k = 4 by omega]
          have g := hg.1
          have hs23 : (cH (cB S 57 f 4) 57 5 4) 28 1 = nI (f 364) := by rw [e2 4 (Nat.le_refl _) _ (by decide) (by decide)]; exact hS.2.2.1.1
          have ce23 : tf_wr (cH (cB S 57 f 4) 57 5 4) 80 81 (f 364) (fun j => (cH (cB S 57 f 4) 57 5 4) 29 j) = (cS (cH (cB S 57 f 4) 57 5 4) 80 28) := (cS_n (o := 80) hs23 (by omega)).symm
          refine tf_go hx ftX7_copyFrom 4 [] 64 [some (.ref 57), some (.ref 5), some (.int (nI 4))] [.ref 28, .ref 80] (cH (cB S 57 f 4) 57 5 4) rfl ⟨by decide, by decide, rfl⟩ ⟨⟨trivial, ⟨by first | assumption | rfl | decide | omega | exact Nat.succ_ne_zero _, by first | assumption | rfl | decide | omega | exact Nat.succ_ne_zero _⟩⟩, ⟨by first | assumption | rfl | decide | omega | exact Nat.succ_ne_zero _, by first | assumption | rfl | decide | omega | exact Nat.succ_ne_zero _⟩⟩ ?_
          refine tf_cV hx ftX7_copyFrom (nx := 67) (As := [.ref 28]) (rest := []) (st2 := []) ((show tf_Fn mX5_copyFrom 2 0 0 (tf_GG N) (cH (cB S 57 f 4) 57 5 4) [.ref 80, .ref 28] (tf_GG N) (cS (cH (cB S 57 f 4) 57 5 4) 80 28) none by rw [← ce23]; exact c_copyFrom (S := (cH (cB S 57 f 4) 57 5 4)) (o := 80) (p := 28) (n := f 364) (se80 (N := N)) (se28 (N := N)) hs23 (by omega) (by omega) (by decide) (by show 28 ≠ 81; decide) (by show 29 ≠ 80; decide) (by show 29 ≠ 81; decide))) rfl lX7_54 (by first | assumption | rfl | decide) rfl ⟨rfl, by decide, by decide, by decide, rfl, rfl⟩ ?_
          have hs25 : (cS (cH (cB S 57 f 4) 57 5 4) 80 28) 30 1 = nI (f 365) := by rw [cS_fr (by decide) (by decide), e2 4 (Nat.le_refl _) _ (by decide) (by decide)]; exact hS.2.2.2.1.1
          have ce25 : tf_wr (cS (cH (cB S 57 f 4) 57 5 4) 80 28) 82 83 (f 365) (fun j => (cS (cH (cB S 57 f 4) 57 5 4) 80 28) 31 j) = (cS (cS (cH (cB S 57 f 4) 57 5 4) 80 28) 82 30) := (cS_n (o := 82) hs25 (by omega)).symm
          refine tf_go hx ftX7_copyFrom 4 [] 75 [some (.ref 57), some (.ref 5), some (.int (nI 4))] [.ref 30, .ref 82] (cS (cH (cB S 57 f 4) 57 5 4) 80 28) rfl ⟨by decide, by decide, rfl⟩ ⟨⟨trivial, ⟨by first | assumption | rfl | decide | omega | exact Nat.succ_ne_zero _, by first | assumption | rfl | decide | omega | exact Nat.succ_ne_zero _⟩⟩, ⟨by first | assumption | rfl | decide | omega | exact Nat.succ_ne_zero _, by first | assumption | rfl | decide | omega | exact Nat.succ_ne_zero _⟩⟩ ?_
          refine tf_cV hx ftX7_copyFrom (nx := 78) (As := [.ref 30]) (rest := []) (st2 := []) ((show tf_Fn mX5_copyFrom 2 0 0 (tf_GG N) (cS (cH (cB S 57 f 4) 57 5 4) 80 28) [.ref 82, .ref 30] (tf_GG N) (cS (cS (cH (cB S 57 f 4) 57 5 4) 80 28) 82 30) none by rw [← ce25]; exact c_copyFrom (S := (cS (cH (cB S 57 f 4) 57 5 4) 80 28)) (o := 82) (p := 30) (n := f 365) (se82 (N := N)) (se30 (N := N)) hs25 (by omega) (by omega) (by decide) (by show 30 ≠ 83; decide) (by show 31 ≠ 82; decide) (by show 31 ≠ 83; decide))) rfl lX7_54 (by first | assumption | rfl | decide) rfl ⟨rfl, by decide, by decide, by decide, rfl, rfl⟩ ?_
          have hm : ∀ w, w < 10 → ∃ m, m ≤ 8 ∧ (cS (cS (cH (cB S 57 f 4) 57 5 4) 80 28) 82 30) (34 + 2 * w) 1 = nI m := fun w hw => by rw [cS_fr (by omega) (by omega), cS_fr (by omega) (by omega), e2 4 (Nat.le_refl _) _ (by omega) (by omega)]; exact hS.2.2.2.2.1.2.2 w hw
          refine tf_go hx ftX7_copyFrom 4 [] 86 [some (.ref 57), some (.ref 5), some (.int (nI 4))] [.ref 32, .ref 84] (cS (cS (cH (cB S 57 f 4) 57 5 4) 80 28) 82 30) rfl ⟨by decide, by decide, rfl⟩ ⟨⟨trivial, ⟨by first | assumption | rfl | decide | omega | exact Nat.succ_ne_zero _, by first | assumption | rfl | decide | omega | exact Nat.succ_ne_zero _⟩⟩, ⟨by first | assumption | rfl | decide | omega | exact Nat.succ_ne_zero _, by first | assumption | rfl | decide | omega | exact Nat.succ_ne_zero _⟩⟩ ?_
          refine tf_cV hx ftX7_copyFrom (nx := 89) (As := [.ref 32]) (rest := []) (st2 := []) (w_copyk hm) rfl lX7_57 (by first | assumption | rfl | decide) rfl ⟨rfl, by decide, by decide, by decide, rfl, rfl⟩ ?_
          have hs50 : (cW (cS (cS (cH (cB S 57 f 4) 57 5 4) 80 28) 82 30) 57 5 10) 55 1 = nI (f 367) := by rw [cW_fr (Nat.le_refl _) (by omega), cS_fr (by decide) (by decide), cS_fr (by decide) (by decide), e2 4 (Nat.le_refl _) _ (by decide) (by decide)]; exact hS.2.2.2.2.2.1
          have ce50 : tf_wr (cW (cS (cS (cH (cB S 57 f 4) 57 5 4) 80 28) 82 30) 57 5 10) 107 108 (f 367) (fun j => (cW (cS (cS (cH (cB S 57 f 4) 57 5 4) 80 28) 82 30) 57 5 10) 56 j) = (cS (cW (cS (cS (cH (cB S 57 f 4) 57 5 4) 80 28) 82 30) 57 5 10) 107 55) := (cS_n (o := 107) hs50 (by omega)).symm
          refine tf_go hx ftX7_copyFrom 4 [] 97 [some (.ref 57), some (.ref 5), some (.int (nI 4))] [.ref 55, .ref 107] (cW (cS (cS (cH (cB S 57 f 4) 57 5 4) 80 28) 82 30) 57 5 10) rfl ⟨by decide, by decide, rfl⟩ ⟨⟨trivial, ⟨by first | assumption | rfl | decide | omega | exact Nat.succ_ne_zero _, by first | assumption | rfl | decide | omega | exact Nat.succ_ne_zero _⟩⟩, ⟨by first | assumption | rfl | decide | omega | exact Nat.succ_ne_zero _, by first | assumption | rfl | decide | omega | exact Nat.succ_ne_zero _⟩⟩ ?_
          refine tf_cV hx ftX7_copyFrom (nx := 100) (As := [.ref 55]) (rest := []) (st2 := []) ((show tf_Fn mX5_copyFrom 2 0 0 (tf_GG N) (cW (cS (cS (cH (cB S 57 f 4) 57 5 4) 80 28) 82 30) 57 5 10) [.ref 107, .ref 55] (tf_GG N) (cS (cW (cS (cS (cH (cB S 57 f 4) 57 5 4) 80 28) 82 30) 57 5 10) 107 55) none by rw [← ce50]; exact c_copyFrom (S := (cW (cS (cS (cH (cB S 57 f 4) 57 5 4) 80 28) 82 30) 57 5 10)) (o := 107) (p := 55) (n := f 367) (se107 (N := N)) (se55 (N := N)) hs50 (by omega) (by omega) (by decide) (by show 55 ≠ 108; decide) (by show 56 ≠ 107; decide) (by show 56 ≠ 108; decide))) rfl lX7_54 (by first | assumption | rfl | decide) rfl ⟨rfl, by decide, by decide, by decide, rfl, rfl⟩ ?_
          exact tf_ret ftX7_copyFrom hR rfl ⟨by decide, by decide⟩ rfl rfl rfl
        | succ m ih =>
          intro k hk
          refine tf_go hx ftX7_copyFrom 2 [] 32 [some (.ref 57), some (.ref 5), some (.int (nI k))] [.int 4, .int (nI k)] (cH (cB S 57 f 4) 57 5 k) rfl ⟨by decide, by decide, rfl⟩ trivial ?_
          refine tf_go hx ftX7_copyFrom 1 [false] 35 [some (.ref 57), some (.ref 5), some (.int (nI k))] [] (cH (cB S 57 f 4) 57 5 k) rfl ⟨by decide, by decide, rfl⟩ ⟨trivial, (tf_leF (a := 4) (b := k) (rfl : (4 : Int32) = nI 4) rfl (by omega) (by omega) (by omega))⟩ ?_
          have k4 : k < 4 := by omega
          obtain ⟨a1, a2, a3⟩ := hdk (N := N) k4
          obtain ⟨b1, b2, b3⟩ := hdn (N := N) k4
          have ar : tf_rf (tf_GG N) 71 (Int32.toNatClampNeg (nI k)) = 72 + 2 * k := by rw [tf_cl_nI (by omega)]; exact a3
          have arn : tf_rf (tf_GG N) 71 (Int32.toNatClampNeg (nI k)) ≠ 0 := by rw [ar]; omega
          refine tf_go hx ftX7_copyFrom 4 [] 41 [some (.ref 57), some (.ref 5), some (.int (nI k))] [.ref (tf_rf (tf_GG N) 71 (Int32.toNatClampNeg (nI k)))] (cH (cB S 57 f 4) 57 5 k) rfl ⟨by decide, by decide, rfl⟩ ⟨⟨trivial, ⟨by first | assumption | rfl | decide | omega | exact Nat.succ_ne_zero _, by first | assumption | rfl | decide | omega | exact Nat.succ_ne_zero _⟩⟩, ⟨by first | assumption | exact Or.inl rfl | exact Or.inr (Or.inl rfl) | exact Or.inr (Or.inr rfl) | omega, by exact tf_in (n := k) (N := 4) rfl (by first | assumption | rfl) (by omega) (by decide), by first | assumption | rfl | decide | omega | exact Nat.succ_ne_zero _⟩⟩ ?_
          rw [ar]
          clear ar arn
          have ar : tf_rf (tf_GG N) 19 (Int32.toNatClampNeg (nI k)) = 20 + 2 * k := by rw [tf_cl_nI (by omega)]; exact b3
          have arn : tf_rf (tf_GG N) 19 (Int32.toNatClampNeg (nI k)) ≠ 0 := by rw [ar]; omega
          refine tf_go hx ftX7_copyFrom 4 [] 47 [some (.ref 57), some (.ref 5), some (.int (nI k))] [.ref (tf_rf (tf_GG N) 19 (Int32.toNatClampNeg (nI k))), .ref (72 + 2 * k)] (cH (cB S 57 f 4) 57 5 k) rfl ⟨by decide, by decide, rfl⟩ ⟨⟨trivial, ⟨by first | assumption | rfl | decide | omega | exact Nat.succ_ne_zero _, by first | assumption | rfl | decide | omega | exact Nat.succ_ne_zero _⟩⟩, ⟨by first | assumption | exact Or.inl rfl | exact Or.inr (Or.inl rfl) | exact Or.inr (Or.inr rfl) | omega, by exact tf_in (n := k) (N := 4) rfl (by first | assumption | rfl) (by omega) (by decide), by first | assumption | rfl | decide | omega | exact Nat.succ_ne_zero _⟩⟩ ?_
          rw [ar]
          clear ar arn
          have t3 : tf_tg (tf_GG N) (72 + 2 * k) = 1 := a1.1
          refine tf_cV hx ftX7_copyFrom (nx := 50) (As := [.ref (20 + 2 * k)]) (rest := []) (st2 := []) ((by have h := h_copyFrom (S := (cH (cB S 57 f 4) 57 5 k)) a1 b1 (by rw [a2, b2]; omega); rw [a2, b2] at h; exact h)) rfl lX7_51 (by first | assumption | rfl | decide) rfl ⟨rfl, by decide, by decide, by decide, rfl, rfl⟩ ?_
          refine tf_go hx ftX7_copyFrom 2 [] 30 [some (.ref 57), some (.ref 5), some (.int ((nI k) + 1))] [] (cH (cB S 57 f 4) 57 5 (k + 1)) rfl ⟨by decide, by decide, rfl⟩ trivial ?_
          rw [show ((nI k) + 1) = nI (k + 1) from (tf_add (a := k) (b := 1) rfl (rfl : (1 : Int32) = nI 1))]
          exact ih (k + 1) (by omega)
      exact loop2 4 0 (by omega)
    | succ m ih =>
      intro k hk
      refine tf_go hx ftX7_copyFrom 2 [] 4 [some (.ref 57), some (.ref 5), some (.int (nI k))] [.int 4, .int (nI k)] (cB S 57 f k) rfl ⟨by decide, by decide, rfl⟩ trivial ?_
      refine tf_go hx ftX7_copyFrom 1 [false] 7 [some (.ref 57), some (.ref 5), some (.int (nI k))] [] (cB S 57 f k) rfl ⟨by decide, by decide, rfl⟩ ⟨trivial, (tf_leF (a := 4) (b := k) (rfl : (4 : Int32) = nI 4) rfl (by omega) (by omega) (by omega))⟩ ?_
      have k4 : k < 4 := by omega
      obtain ⟨a1, a2, a22, a3⟩ := bdk (N := N) k4
      obtain ⟨b1, b2, b22, b3⟩ := bdn (N := N) k4
      have ar : tf_rf (tf_GG N) 58 (Int32.toNatClampNeg (nI k)) = 59 + 3 * k := by rw [tf_cl_nI (by omega)]; exact a3
      have arn : tf_rf (tf_GG N) 58 (Int32.toNatClampNeg (nI k)) ≠ 0 := by rw [ar]; omega
      refine tf_go hx ftX7_copyFrom 4 [] 13 [some (.ref 57), some (.ref 5), some (.int (nI k))] [.ref (tf_rf (tf_GG N) 58 (Int32.toNatClampNeg (nI k)))] (cB S 57 f k) rfl ⟨by decide, by decide, rfl⟩ ⟨⟨trivial, ⟨by first | assumption | rfl | decide | omega | exact Nat.succ_ne_zero _, by first | assumption | rfl | decide | omega | exact Nat.succ_ne_zero _⟩⟩, ⟨by first | assumption | exact Or.inl rfl | exact Or.inr (Or.inl rfl) | exact Or.inr (Or.inr rfl) | omega, by exact tf_in (n := k) (N := 4) rfl (by first | assumption | rfl) (by omega) (by decide), by first | assumption | rfl | decide | omega | exact Nat.succ_ne_zero _⟩⟩ ?_
      rw [ar]
      clear ar arn
      have ar : tf_rf (tf_GG N) 6 (Int32.toNatClampNeg (nI k)) = 7 + 3 * k := by rw [tf_cl_nI (by omega)]; exact b3
      have arn : tf_rf (tf_GG N) 6 (Int32.toNatClampNeg (nI k)) ≠ 0 := by rw [ar]; omega
      refine tf_go hx ftX7_copyFrom 4 [] 19 [some (.ref 57), some (.ref 5), some (.int (nI k))] [.ref (tf_rf (tf_GG N) 6 (Int32.toNatClampNeg (nI k))), .ref (59 + 3 * k)] (cB S 57 f k) rfl ⟨by decide, by decide, rfl⟩ ⟨⟨trivial, ⟨by first | assumption | rfl | decide | omega | exact Nat.succ_ne_zero _, by first | assumption | rfl | decide | omega | exact Nat.succ_ne_zero _⟩⟩, ⟨by first | assumption | exact Or.inl rfl | exact Or.inr (Or.inl rfl) | exact Or.inr (Or.inr rfl) | omega, by exact tf_in (n := k) (N := 4) rfl (by first | assumption | rfl) (by omega) (by decide), by first | assumption | rfl | decide | omega | exact Nat.succ_ne_zero _⟩⟩ ?_
      rw [ar]
      clear ar arn
      have t3 : tf_tg (tf_GG N) (59 + 3 * k) = 0 := a1.1
      have vk : ∀ j, j < 30 → f (30 * k + j) ≤ 26 := fun j hj => hg.2.2.2.2.2.2.1 _ (by omega)
      have dk : ∀ i j, i < j → j < 30 → f (30 * k + j) ≠ 0 → f (30 * k + i) ≠ f (30 * k + j) := fun i j hij hj h0 e => by have := hg.2.2.2.2.2.2.2 k k4 i j (by omega) hj e (by omega); omega
      have sk : ∀ j, j < 30 → (cB S 57 f k) (tf_rf (tf_GG N) (7 + 3 * k) 0) j = tf_vo (f (30 * k + j)) := fun j hj => by rw [b2, e1 k (by omega) _ (by omega) (by omega)]; exact (hS.1 k k4).1 j hj
      refine tf_cV hx ftX7_copyFrom (nx := 22) (As := [.ref (7 + 3 * k)]) (rest := []) (st2 := []) ((by have h := b_copyFrom (S := (cB S 57 f k)) (p := fun j => f (30 * k + j)) a1 b1 (by rw [a2, b2]; omega) (by rw [a22, b2]; omega) sk vk dk; rw [a2, a22] at h; exact h)) rfl lX7_47 (by first | assumption | rfl | decide) rfl ⟨rfl, by decide, by decide, by decide, rfl, rfl⟩ ?_
      refine tf_go hx ftX7_copyFrom 2 [] 2 [some (.ref 57), some (.ref 5), some (.int ((nI k) + 1))] [] (cB S 57 f (k + 1)) rfl ⟨by decide, by decide, rfl⟩ trivial ?_
      rw [show ((nI k) + 1) = nI (k + 1) from (tf_add (a := k) (b := 1) rfl (rfl : (1 : Int32) = nI 1))]
      exact ih (k + 1) (by omega)
  exact loop 4 0 (by omega)

