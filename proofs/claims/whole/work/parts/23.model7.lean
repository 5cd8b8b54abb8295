def tX11_lettersFault : tf_T := [(0, .iconst 0, 1, 0, 0),
  (1, .istore_n 2, 2, 0, 0),
  (2, .iload_n 2, 3, 0, 0),
  (3, .aload_n 0, 4, 0, 0),
  (4, .getfield 30, 7, 0, 0),
  (7, .if_icmp .ge 38, 10, 45, 0),
  (10, .aload_n 0, 11, 0, 0),
  (11, .getfield 19, 14, 0, 0),
  (14, .iload_n 2, 15, 0, 0),
  (15, .iaload, 16, 0, 0),
  (16, .invokestatic 36, 19, 0, 0),
  (19, .ifCond .ne 20, 22, 39, 0),
  (22, .iload_n 1, 23, 0, 0),
  (23, .ifCond .eq 14, 26, 37, 0),
  (26, .aload_n 0, 27, 0, 0),
  (27, .getfield 19, 30, 0, 0),
  (30, .iload_n 2, 31, 0, 0),
  (31, .iaload, 32, 0, 0),
  (32, .bipush 60, 34, 0, 60),
  (34, .if_icmp .eq 5, 37, 39, 0),
  (37, .iload_n 2, 38, 0, 0),
  (38, .ireturn, 39, 0, 0),
  (39, .iinc 2 1, 42, 0, 1),
  (42, .goto (-40), 45, 2, 0),
  (45, .bipush (-9), 47, 0, (-9)),
  (47, .ireturn, 48, 0, 0)]
set_option maxRecDepth 100000 in
theorem okX11_lettersFault : tf_okT cX11_lettersFault tX11_lettersFault := by unfold tf_okT; decide +kernel
theorem ftX11_lettersFault : 1 ≤ 2 ∧ tf_okF RX11 fX11 ∧ tf_okT cX11_lettersFault tX11_lettersFault := ⟨by decide, okfX11, okX11_lettersFault⟩
def mX11_lettersFault : tf_M := (yX11_lettersFault, cX11_lettersFault, 3, (some .int))

def tX11_boardFault : tf_T := [(0, .iconst 0, 1, 0, 0),
  (1, .istore_n 1, 2, 0, 0),
  (2, .iconst 0, 3, 0, 0),
  (3, .istore_n 2, 4, 0, 0),
  (4, .iload_n 2, 5, 0, 0),
  (5, .bipush 32, 7, 0, 32),
  (7, .if_icmp .ge 100, 10, 107, 0),
  (10, .iload_n 2, 11, 0, 0),
  (11, .aload_n 0, 12, 0, 0),
  (12, .getfield 30, 15, 0, 0),
  (15, .if_icmp .lt 8, 18, 23, 0),
  (18, .aload_n 0, 19, 0, 0),
  (19, .getfield 30, 22, 0, 0),
  (22, .ireturn, 23, 0, 0),
  (23, .aload_n 0, 24, 0, 0),
  (24, .getfield 19, 27, 0, 0),
  (27, .iload_n 2, 28, 0, 0),
  (28, .iaload, 29, 0, 0),
  (29, .istore_n 3, 30, 0, 0),
  (30, .iload_n 2, 31, 0, 0),
  (31, .bipush 11, 33, 0, 11),
  (33, .irem, 34, 0, 0),
  (34, .bipush 10, 36, 0, 10),
  (36, .if_icmp .ne 11, 39, 47, 0),
  (39, .iload_n 3, 40, 0, 0),
  (40, .bipush 47, 42, 0, 47),
  (42, .if_icmp .eq 59, 45, 101, 0),
  (45, .iload_n 2, 46, 0, 0),
  (46, .ireturn, 47, 0, 0),
  (47, .iload_n 3, 48, 0, 0),
  (48, .bipush 46, 50, 0, 46),
  (50, .if_icmp .eq 10, 53, 60, 0),
  (53, .iload_n 3, 54, 0, 0),
  (54, .invokestatic 36, 57, 0, 0),
  (57, .ifCond .eq 22, 60, 79, 0),
  (60, .iload_n 3, 61, 0, 0),
  (61, .invokestatic 36, 64, 0, 0),
  (64, .ifCond .eq 17, 67, 81, 0),
  (67, .iload_n 1, 68, 0, 0),
  (68, .iload_n 3, 69, 0, 0),
  (69, .bipush 97, 71, 0, 97),
  (71, .isub, 72, 0, 0),
  (72, .ishr, 73, 0, 0),
  (73, .iconst 1, 74, 0, 1),
  (74, .iand, 75, 0, 0),
  (75, .iconst 1, 76, 0, 1),
  (76, .if_icmp .ne 5, 79, 81, 0),
  (79, .iload_n 2, 80, 0, 0),
  (80, .ireturn, 81, 0, 0),
  (81, .iload_n 1, 82, 0, 0),
  (82, .iload_n 3, 83, 0, 0),
  (83, .invokestatic 36, 86, 0, 0),
  (86, .ifCond .eq 12, 89, 98, 0),
  (89, .iconst 1, 90, 0, 1),
  (90, .iload_n 3, 91, 0, 0),
  (91, .bipush 97, 93, 0, 97),
  (93, .isub, 94, 0, 0),
  (94, .ishl, 95, 0, 0),
  (95, .goto 4, 98, 99, 0),
  (98, .iconst 0, 99, 0, 0),
  (99, .ior, 100, 0, 0),
  (100, .istore_n 1, 101, 0, 0),
  (101, .iinc 2 1, 104, 0, 1),
  (104, .goto (-100), 107, 4, 0),
  (107, .aload_n 0, 108, 0, 0),
  (108, .getfield 30, 111, 0, 0),
  (111, .bipush 32, 113, 0, 32),
  (113, .if_icmp .le 8, 116, 121, 0),
  (116, .bipush 32, 118, 0, 32),
  (118, .goto 5, 121, 123, 0),
  (121, .bipush (-9), 123, 0, (-9)),
  (123, .ireturn, 124, 0, 0)]
set_option maxRecDepth 100000 in
theorem okX11_boardFault : tf_okT cX11_boardFault tX11_boardFault := by unfold tf_okT; decide +kernel
theorem ftX11_boardFault : 1 ≤ 2 ∧ tf_okF RX11 fX11 ∧ tf_okT cX11_boardFault tX11_boardFault := ⟨by decide, okfX11, okX11_boardFault⟩
def mX11_boardFault : tf_M := (yX11_boardFault, cX11_boardFault, 4, (some .int))

def tX11_feed : tf_T := [(0, .iload_n 1, 1, 0, 0),
  (1, .iconst 1, 2, 0, 1),
  (2, .if_icmp .ge 10, 5, 12, 0),
  (5, .aload_n 0, 6, 0, 0),
  (6, .bipush (-4), 8, 0, (-4)),
  (8, .invokevirtual 26, 11, 0, 0),
  (11, .ireturn, 12, 0, 0),
  (12, .iload_n 1, 13, 0, 0),
  (13, .bipush 8, 15, 0, 8),
  (15, .if_icmp .gt 14, 18, 29, 0),
  (18, .aload_n 0, 19, 0, 0),
  (19, .getfield 30, 22, 0, 0),
  (22, .iload_n 1, 23, 0, 0),
  (23, .iadd, 24, 0, 0),
  (24, .bipush 48, 26, 0, 48),
  (26, .if_icmp .le 10, 29, 36, 0),
  (29, .aload_n 0, 30, 0, 0),
  (30, .bipush (-6), 32, 0, (-6)),
  (32, .invokevirtual 26, 35, 0, 0),
  (35, .ireturn, 36, 0, 0),
  (36, .iconst 0, 37, 0, 0),
  (37, .istore 4, 39, 0, 0),
  (39, .iload 4, 41, 0, 0),
  (41, .iload_n 1, 42, 0, 0),
  (42, .if_icmp .ge 40, 45, 82, 0),
  (45, .aload_n 0, 46, 0, 0),
  (46, .getfield 19, 49, 0, 0),
  (49, .aload_n 0, 50, 0, 0),
  (50, .getfield 30, 53, 0, 0),
  (53, .lload_n 2, 54, 0, 0),
  (54, .bipush 8, 56, 0, 8),
  (56, .iload 4, 58, 0, 0),
  (58, .imul, 59, 0, 0),
  (59, .lshr, 60, 0, 0),
  (60, .ldc2_w 34, 63, 0, 0),
  (63, .land, 64, 0, 0),
  (64, .l2i, 65, 0, 0),
  (65, .iastore, 66, 0, 0),
  (66, .aload_n 0, 67, 0, 0),
  (67, .dup, 68, 0, 0),
  (68, .getfield 30, 71, 0, 0),
  (71, .iconst 1, 72, 0, 1),
  (72, .iadd, 73, 0, 0),
  (73, .putfield 30, 76, 0, 0),
  (76, .iinc 4 1, 79, 0, 1),
  (79, .goto (-40), 82, 39, 0),
  (82, .aload_n 0, 83, 0, 0),
  (83, .getfield 30, 86, 0, 0),
  (86, .ireturn, 87, 0, 0)]
set_option maxRecDepth 100000 in
theorem okX11_feed : tf_okT cX11_feed tX11_feed := by unfold tf_okT; decide +kernel
theorem ftX11_feed : 1 ≤ 2 ∧ tf_okF RX11 fX11 ∧ tf_okT cX11_feed tX11_feed := ⟨by decide, okfX11, okX11_feed⟩
def mX11_feed : tf_M := (yX11_feed, cX11_feed, 5, (some .int))

set_option maxRecDepth 100000 in
theorem lX11_36 : tf_okS RX11 36 1 mX11_isLetter := by unfold tf_okS tf_okL; decide +kernel

set_option maxHeartbeats 1000000 in
theorem m_lettersFault {G : tf_G} {S : tf_Sg} {o : Nat} {T : Nat → Nat} {n : Nat} (bk : Nat) (ho : tf_mo G o) (hT : ∀ k, S (tf_rf G o 4) k = nI (T k)) (hT2 : ∀ k, T k < 256) (hn : S o 5 = nI n) (hn2 : n ≤ 48) (hbk : bk < 2) : tf_Fn mX11_lettersFault 2 0 0 G S [.ref o, .int (nI bk)] G S (some (.int (tf_on n (tf_lf T n bk)))) := by
  obtain ⟨h1, ⟨r0, t0, n0⟩, ⟨r1, t1, n1⟩, ⟨r2, t2, n2⟩, ⟨r4, t4, n4⟩⟩ := id ho
  refine tf_Fn_of (own := RX11) false ⟨by decide, rfl, by decide⟩ (Nat.le_of_ble_eq_true rfl) trivial (fun x hx hR => ?_)
  show tf_K x 0 0 G S 0 [some (.ref o), some (.int (nI bk)), none] []
  unfold tf_lf at hR
  refine tf_go hx ftX11_lettersFault 2 [] 2 [some (.ref o), some (.int (nI bk)), some (.int 0)] [] S rfl ⟨by decide, by decide, rfl⟩ trivial ?_
  have loop : ∀ (m k : Nat), k + m = n → (tf_fst (tf_lb T bk) m k = tf_fst (tf_lb T bk) n 0) → tf_K x 0 0 G S 2 [some (.ref o), some (.int (nI bk)), some (.int (nI k))] [] := by
    intro m
    induction m with
    | zero =>
      intro k hk he
      refine tf_go hx ftX11_lettersFault 3 [] 7 [some (.ref o), some (.int (nI bk)), some (.int (nI k))] [.int (S o 5), .int (nI k)] S rfl ⟨by decide, by decide, rfl⟩ ⟨trivial, (by first | assumption | rfl | decide | omega)⟩ ?_
      rw [show (S o 5) = nI n from hn]
      refine tf_go hx ftX11_lettersFault 2 [true] 47 [some (.ref o), some (.int (nI bk)), some (.int (nI k))] [.int (-9)] S rfl ⟨by decide, by decide, rfl⟩ ⟨trivial, (tf_leT (a := n) (b := k) rfl rfl (by omega) (by omega) (by omega))⟩ ?_
      exact tf_ret ftX11_lettersFault hR rfl ⟨by decide, by decide⟩ rfl rfl (by rw [← he, tf_fst_0]; show _ = [Value.int (tf_on n k)]; rw [tf_on_n (by omega)])
    | succ m ih =>
      intro k hk he
      refine tf_go hx ftX11_lettersFault 3 [] 7 [some (.ref o), some (.int (nI bk)), some (.int (nI k))] [.int (S o 5), .int (nI k)] S rfl ⟨by decide, by decide, rfl⟩ ⟨trivial, (by first | assumption | rfl | decide | omega)⟩ ?_
      rw [show (S o 5) = nI n from hn]
      refine tf_go hx ftX11_lettersFault 1 [false] 10 [some (.ref o), some (.int (nI bk)), some (.int (nI k))] [] S rfl ⟨by decide, by decide, rfl⟩ ⟨trivial, (tf_leF (a := n) (b := k) rfl rfl (by omega) (by omega) (by omega))⟩ ?_
      refine tf_go hx ftX11_lettersFault 4 [] 16 [some (.ref o), some (.int (nI bk)), some (.int (nI k))] [.int (S (tf_rf G o 4) (Int32.toNatClampNeg (nI k)))] S rfl ⟨by decide, by decide, rfl⟩ ⟨⟨trivial, ⟨by first | assumption | rfl | decide | omega, by first | assumption | rfl | decide | omega⟩⟩, ⟨Or.inl (by first | assumption | rfl | decide | omega), by first | assumption | exact tf_in (n := k) rfl (by first | assumption | rfl) (by omega) (by decide)⟩⟩ ?_
      rw [show (S (tf_rf G o 4) (Int32.toNatClampNeg (nI k))) = nI (T k) from (tf_rd hT rfl (by omega))]
      refine tf_cS hx ftX11_lettersFault (nx := 19) (As := [.int (nI (T k))]) (rest := []) (st2 := [.int (if tf_lt (T k) = true then 1 else 0)]) ((by have h := m_isLetter (G := G) (S := S) (nI (T k)); rw [tf_lt_i (hT2 _)] at h; exact h)) rfl lX11_36 rfl ⟨rfl, by decide, by decide, by decide, rfl, rfl⟩ ?_
      by_cases c1 : tf_lt (T k) = true
      · rw [if_pos c1]
        refine tf_go hx ftX11_lettersFault 3 [true] 2 [some (.ref o), some (.int (nI bk)), some (.int ((nI k) + 1))] [] S rfl ⟨by decide, by decide, rfl⟩ ⟨trivial, (by decide)⟩ ?_
        rw [show ((nI k) + 1) = nI (k + 1) from (tf_add (a := k) (b := 1) rfl (rfl : (1 : Int32) = nI 1))]
        exact ih (k + 1) (by omega) (by rw [← he, tf_fst_n (by unfold tf_lb; simp [c1])])
      · rw [if_neg c1]
        refine tf_go hx ftX11_lettersFault 1 [false] 22 [some (.ref o), some (.int (nI bk)), some (.int (nI k))] [] S rfl ⟨by decide, by decide, rfl⟩ ⟨trivial, (by decide)⟩ ?_
        refine tf_go hx ftX11_lettersFault 1 [] 23 [some (.ref o), some (.int (nI bk)), some (.int (nI k))] [.int (nI bk)] S rfl ⟨by decide, by decide, rfl⟩ trivial ?_
        by_cases c2 : bk = 0
        · refine tf_go hx ftX11_lettersFault 2 [true] 38 [some (.ref o), some (.int (nI bk)), some (.int (nI k))] [.int (nI k)] S rfl ⟨by decide, by decide, rfl⟩ ⟨trivial, (tf_eqT (a := bk) (b := 0) rfl (rfl : (0 : Int32) = nI 0) (by omega))⟩ ?_
          exact tf_ret ftX11_lettersFault hR rfl ⟨by decide, by decide⟩ rfl rfl (by rw [← he, tf_fst_y (by unfold tf_lb; simp [c1, c2])]; show _ = [Value.int (tf_on n k)]; rw [tf_on_y (by omega)])
        · refine tf_go hx ftX11_lettersFault 1 [false] 26 [some (.ref o), some (.int (nI bk)), some (.int (nI k))] [] S rfl ⟨by decide, by decide, rfl⟩ ⟨trivial, (tf_eqF (a := bk) (b := 0) rfl (rfl : (0 : Int32) = nI 0) (by omega) (by omega) (by omega))⟩ ?_
          refine tf_go hx ftX11_lettersFault 5 [] 34 [some (.ref o), some (.int (nI bk)), some (.int (nI k))] [.int 60, .int (S (tf_rf G o 4) (Int32.toNatClampNeg (nI k)))] S rfl ⟨by decide, by decide, rfl⟩ ⟨⟨trivial, ⟨by first | assumption | rfl | decide | omega, by first | assumption | rfl | decide | omega⟩⟩, ⟨Or.inl (by first | assumption | rfl | decide | omega), by first | assumption | exact tf_in (n := k) rfl (by first | assumption | rfl) (by omega) (by decide)⟩⟩ ?_
          rw [show (S (tf_rf G o 4) (Int32.toNatClampNeg (nI k))) = nI (T k) from (tf_rd hT rfl (by omega))]
          by_cases c3 : T k = 60
          · refine tf_go hx ftX11_lettersFault 3 [true] 2 [some (.ref o), some (.int (nI bk)), some (.int ((nI k) + 1))] [] S rfl ⟨by decide, by decide, rfl⟩ ⟨trivial, (tf_eqT (a := (T k)) (b := 60) rfl (rfl : (60 : Int32) = nI 60) (by have := hT2 k; omega))⟩ ?_
            rw [show ((nI k) + 1) = nI (k + 1) from (tf_add (a := k) (b := 1) rfl (rfl : (1 : Int32) = nI 1))]
            exact ih (k + 1) (by omega) (by rw [← he, tf_fst_n (by unfold tf_lb; simp [c2, c3])])
          · refine tf_go hx ftX11_lettersFault 2 [false] 38 [some (.ref o), some (.int (nI bk)), some (.int (nI k))] [.int (nI k)] S rfl ⟨by decide, by decide, rfl⟩ ⟨trivial, (tf_eqF (a := (T k)) (b := 60) rfl (rfl : (60 : Int32) = nI 60) (by have := hT2 k; omega) (by have := hT2 k; omega) (by have := hT2 k; omega))⟩ ?_
            exact tf_ret ftX11_lettersFault hR rfl ⟨by decide, by decide⟩ rfl rfl (by rw [← he, tf_fst_y (by unfold tf_lb; simp [c1, c3])]; show _ = [Value.int (tf_on n k)]; rw [tf_on_y (by omega)])
  exact loop n 0 (by omega) rfl

set_option maxHeartbeats 1000000 in
theorem m_boardFault {G : tf_G} {S : tf_Sg} {o : Nat} {T : Nat → Nat} {n : Nat} (ho : tf_mo G o) (hT : ∀ k, S (tf_rf G o 4) k = nI (T k)) (hT2 : ∀ k, T k < 256) (hn : S o 5 = nI n) (hn2 : n ≤ 48) : tf_Fn mX11_boardFault 2 0 0 G S [.ref o] G S (some (.int (tf_on 49 (tf_bf T n)))) := by
  obtain ⟨h1, ⟨r0, t0, n0⟩, ⟨r1, t1, n1⟩, ⟨r2, t2, n2⟩, ⟨r4, t4, n4⟩⟩ := id ho
  refine tf_Fn_of (own := RX11) false ⟨by decide, rfl, by decide⟩ (Nat.le_of_ble_eq_true rfl) trivial (fun x hx hR => ?_)
  show tf_K x 0 0 G S 0 [some (.ref o), none, none, none] []
  unfold tf_bf at hR
  refine tf_go hx ftX11_boardFault 4 [] 4 [some (.ref o), some (.int 0), some (.int 0), none] [] S rfl ⟨by decide, by decide, rfl⟩ trivial ?_
  refine tf_fgt [some (.ref o), some (.int 0), some (.int 0), none] (by simp [tf_lss]) ?_
  have loop : ∀ (m k : Nat), k + m = 32 → (tf_fst (tf_bb T n) m k = tf_fst (tf_bb T n) 32 0) → (k ≤ n) → tf_K x 0 0 G S 4 [some (.ref o), some (.int (nI (tf_bs T k))), some (.int (nI k)), none] [] := by
    intro m
    induction m with
    | zero =>
      intro k hk he hnk
      refine tf_go hx ftX11_boardFault 2 [] 7 [some (.ref o), some (.int (nI (tf_bs T k))), some (.int (nI k)), none] [.int 32, .int (nI k)] S rfl ⟨by decide, by decide, rfl⟩ trivial ?_
      refine tf_go hx ftX11_boardFault 1 [true] 107 [some (.ref o), some (.int (nI (tf_bs T k))), some (.int (nI k)), none] [] S rfl ⟨by decide, by decide, rfl⟩ ⟨trivial, (tf_leT (a := 32) (b := k) (rfl : (32 : Int32) = nI 32) rfl (by omega) (by omega) (by omega))⟩ ?_
      refine tf_go hx ftX11_boardFault 3 [] 113 [some (.ref o), some (.int (nI (tf_bs T k))), some (.int (nI k)), none] [.int 32, .int (S o 5)] S rfl ⟨by decide, by decide, rfl⟩ ⟨trivial, (by first | assumption | rfl | decide | omega)⟩ ?_
      rw [show (S o 5) = nI n from hn]
      by_cases c0 : 32 < n
      · refine tf_go hx ftX11_boardFault 3 [false] 123 [some (.ref o), some (.int (nI (tf_bs T k))), some (.int (nI k)), none] [.int 32] S rfl ⟨by decide, by decide, rfl⟩ ⟨trivial, (tf_leF (a := n) (b := 32) rfl (rfl : (32 : Int32) = nI 32) (by omega) (by omega) (by omega))⟩ ?_
        exact tf_ret ftX11_boardFault hR rfl ⟨by decide, by decide⟩ rfl rfl (by rw [← he, tf_fst_0, if_neg (by omega), if_pos c0]; rfl)
      · refine tf_go hx ftX11_boardFault 2 [true] 123 [some (.ref o), some (.int (nI (tf_bs T k))), some (.int (nI k)), none] [.int (-9)] S rfl ⟨by decide, by decide, rfl⟩ ⟨trivial, (tf_leT (a := n) (b := 32) rfl (rfl : (32 : Int32) = nI 32) (by omega) (by omega) (by omega))⟩ ?_
        exact tf_ret ftX11_boardFault hR rfl ⟨by decide, by decide⟩ rfl rfl (by rw [← he, tf_fst_0, if_neg (by omega), if_neg c0]; rfl)
    | succ m ih =>
      intro k hk he hnk
      have sl := tf_bs_le T k
      refine tf_go hx ftX11_boardFault 2 [] 7 [some (.ref o), some (.int (nI (tf_bs T k))), some (.int (nI k)), none] [.int 32, .int (nI k)] S rfl ⟨by decide, by decide, rfl⟩ trivial ?_
      refine tf_go hx ftX11_boardFault 1 [false] 10 [some (.ref o), some (.int (nI (tf_bs T k))), some (.int (nI k)), none] [] S rfl ⟨by decide, by decide, rfl⟩ ⟨trivial, (tf_leF (a := 32) (b := k) (rfl : (32 : Int32) = nI 32) rfl (by omega) (by omega) (by omega))⟩ ?_
      refine tf_go hx ftX11_boardFault 3 [] 15 [some (.ref o), some (.int (nI (tf_bs T k))), some (.int (nI k)), none] [.int (S o 5), .int (nI k)] S rfl ⟨by decide, by decide, rfl⟩ ⟨trivial, (by first | assumption | rfl | decide | omega)⟩ ?_
      rw [show (S o 5) = nI n from hn]
      by_cases c0 : k < n
      · refine tf_go hx ftX11_boardFault 1 [true] 23 [some (.ref o), some (.int (nI (tf_bs T k))), some (.int (nI k)), none] [] S rfl ⟨by decide, by decide, rfl⟩ ⟨trivial, (tf_ltT (a := k) (b := n) rfl rfl (by omega) (by omega) (by omega))⟩ ?_
        refine tf_go hx ftX11_boardFault 9 [] 36 [some (.ref o), some (.int (nI (tf_bs T k))), some (.int (nI k)), some (.int (S (tf_rf G o 4) (Int32.toNatClampNeg (nI k))))] [.int 10, .int ((nI k) - (nI k) / 11 * 11)] S rfl ⟨by decide, by decide, rfl⟩ ⟨⟨⟨trivial, ⟨by first | assumption | rfl | decide | omega, by first | assumption | rfl | decide | omega⟩⟩, ⟨Or.inl (by first | assumption | rfl | decide | omega), by first | assumption | exact tf_in (n := k) rfl (by first | assumption | rfl) (by omega) (by decide)⟩⟩, (by decide)⟩ ?_
        rw [show (S (tf_rf G o 4) (Int32.toNatClampNeg (nI k))) = nI (T k) from (tf_rd hT rfl (by omega))]
        rw [show ((nI k) - (nI k) / 11 * 11) = nI (k % 11) from (tf_rem (a := k) (d := 11) rfl (rfl : (11 : Int32) = nI 11) (by omega) (by omega) (by omega))]
        by_cases c1 : k % 11 = 10
        · refine tf_go hx ftX11_boardFault 1 [false] 39 [some (.ref o), some (.int (nI (tf_bs T k))), some (.int (nI k)), some (.int (nI (T k)))] [] S rfl ⟨by decide, by decide, rfl⟩ ⟨trivial, (tf_neF (a := (k % 11)) (b := 10) rfl (rfl : (10 : Int32) = nI 10) (by omega))⟩ ?_
          refine tf_go hx ftX11_boardFault 2 [] 42 [some (.ref o), some (.int (nI (tf_bs T k))), some (.int (nI k)), some (.int (nI (T k)))] [.int 47, .int (nI (T k))] S rfl ⟨by decide, by decide, rfl⟩ trivial ?_
          by_cases c2 : T k = 47
          · refine tf_go hx ftX11_boardFault 3 [true] 4 [some (.ref o), some (.int (nI (tf_bs T k))), some (.int ((nI k) + 1)), some (.int (nI (T k)))] [] S rfl ⟨by decide, by decide, rfl⟩ ⟨trivial, (tf_eqT (a := (T k)) (b := 47) rfl (rfl : (47 : Int32) = nI 47) (by have := hT2 k; omega))⟩ ?_
            rw [show ((nI k) + 1) = nI (k + 1) from (tf_add (a := k) (b := 1) rfl (rfl : (1 : Int32) = nI 1))]
            have se : tf_bs T (k + 1) = tf_bs T k := by rw [tf_bs_s, if_neg (fun h => h.1 c1)]
            refine tf_fgt [some (.ref o), some (.int (nI (tf_bs T k))), some (.int (nI (k + 1))), none] (by simp [tf_lss]) ?_
            rw [← se]
            exact ih (k + 1) (by omega) (by rw [← he, tf_fst_n (by unfold tf_bb; simp [show ¬ n ≤ k by omega, c1, c2])]) (by omega)
          · refine tf_go hx ftX11_boardFault 2 [false] 46 [some (.ref o), some (.int (nI (tf_bs T k))), some (.int (nI k)), some (.int (nI (T k)))] [.int (nI k)] S rfl ⟨by decide, by decide, rfl⟩ ⟨trivial, (tf_eqF (a := (T k)) (b := 47) rfl (rfl : (47 : Int32) = nI 47) (by have := hT2 k; omega) (by have := hT2 k; omega) (by have := hT2 k; omega))⟩ ?_
            exact tf_ret ftX11_boardFault hR rfl ⟨by decide, by decide⟩ rfl rfl (by rw [← he, tf_fst_y (by unfold tf_bb; simp [c1, c2]), if_pos (by omega), tf_on_y (by omega)]; rfl)
        · refine tf_go hx ftX11_boardFault 1 [true] 47 [some (.ref o), some (.int (nI (tf_bs T k))), some (.int (nI k)), some (.int (nI (T k)))] [] S rfl ⟨by decide, by decide, rfl⟩ ⟨trivial, (tf_eqF (a := (k % 11)) (b := 10) rfl (rfl : (10 : Int32) = nI 10) (by omega) (by omega) (by omega))⟩ ?_
          refine tf_go hx ftX11_boardFault 2 [] 50 [some (.ref o), some (.int (nI (tf_bs T k))), some (.int (nI k)), some (.int (nI (T k)))] [.int 46, .int (nI (T k))] S rfl ⟨by decide, by decide, rfl⟩ trivial ?_
          by_cases c2 : T k = 46
          · refine tf_go hx ftX11_boardFault 1 [true] 60 [some (.ref o), some (.int (nI (tf_bs T k))), some (.int (nI k)), some (.int (nI (T k)))] [] S rfl ⟨by decide, by decide, rfl⟩ ⟨trivial, (tf_eqT (a := (T k)) (b := 46) rfl (rfl : (46 : Int32) = nI 46) (by have := hT2 k; omega))⟩ ?_
            by_cases c3 : tf_lt (T k) = true
            · exact absurd (tf_lt_y c3).1 (by omega)
            · refine tf_go hx ftX11_boardFault 1 [] 61 [some (.ref o), some (.int (nI (tf_bs T k))), some (.int (nI k)), some (.int (nI (T k)))] [.int (nI (T k))] S rfl ⟨by decide, by decide, rfl⟩ trivial ?_
              refine tf_cS hx ftX11_boardFault (nx := 64) (As := [.int (nI (T k))]) (rest := []) (st2 := [.int (if tf_lt (T k) = true then 1 else 0)]) ((by have h := m_isLetter (G := G) (S := S) (nI (T k)); rw [tf_lt_i (hT2 _)] at h; exact h)) rfl lX11_36 rfl ⟨rfl, by decide, by decide, by decide, rfl, rfl⟩ ?_
              rw [if_neg c3]
              refine tf_go hx ftX11_boardFault 3 [true] 83 [some (.ref o), some (.int (nI (tf_bs T k))), some (.int (nI k)), some (.int (nI (T k)))] [.int (nI (T k)), .int (nI (tf_bs T k))] S rfl ⟨by decide, by decide, rfl⟩ ⟨trivial, (by decide)⟩ ?_
              refine tf_cS hx ftX11_boardFault (nx := 86) (As := [.int (nI (T k))]) (rest := [.int (nI (tf_bs T k))]) (st2 := [.int (if tf_lt (T k) = true then 1 else 0), .int (nI (tf_bs T k))]) ((by have h := m_isLetter (G := G) (S := S) (nI (T k)); rw [tf_lt_i (hT2 _)] at h; exact h)) rfl lX11_36 rfl ⟨rfl, by decide, by decide, by decide, rfl, rfl⟩ ?_
              rw [if_neg c3]
              refine tf_go hx ftX11_boardFault 1 [true] 98 [some (.ref o), some (.int (nI (tf_bs T k))), some (.int (nI k)), some (.int (nI (T k)))] [.int (nI (tf_bs T k))] S rfl ⟨by decide, by decide, rfl⟩ ⟨trivial, (by decide)⟩ ?_
              refine tf_go hx ftX11_boardFault 2 [] 100 [some (.ref o), some (.int (nI (tf_bs T k))), some (.int (nI k)), some (.int (nI (T k)))] [.int ((nI (tf_bs T k)) ||| 0)] S rfl ⟨by decide, by decide, rfl⟩ trivial ?_
              rw [Int32.or_zero]
              refine tf_go hx ftX11_boardFault 3 [] 4 [some (.ref o), some (.int (nI (tf_bs T k))), some (.int ((nI k) + 1)), some (.int (nI (T k)))] [] S rfl ⟨by decide, by decide, rfl⟩ trivial ?_
              rw [show ((nI k) + 1) = nI (k + 1) from (tf_add (a := k) (b := 1) rfl (rfl : (1 : Int32) = nI 1))]
              have se : tf_bs T (k + 1) = tf_bs T k := by rw [tf_bs_s, if_neg (fun h => c3 h.2)]
              refine tf_fgt [some (.ref o), some (.int (nI (tf_bs T k))), some (.int (nI (k + 1))), none] (by simp [tf_lss]) ?_
              rw [← se]
              exact ih (k + 1) (by omega) (by rw [← he, tf_fst_n (by unfold tf_bb; simp [show ¬ n ≤ k by omega, c1, c3, c2, show tf_lt 46 = false from by decide])]) (by omega)
          · refine tf_go hx ftX11_boardFault 1 [false] 53 [some (.ref o), some (.int (nI (tf_bs T k))), some (.int (nI k)), some (.int (nI (T k)))] [] S rfl ⟨by decide, by decide, rfl⟩ ⟨trivial, (tf_eqF (a := (T k)) (b := 46) rfl (rfl : (46 : Int32) = nI 46) (by have := hT2 k; omega) (by have := hT2 k; omega) (by have := hT2 k; omega))⟩ ?_
            refine tf_go hx ftX11_boardFault 1 [] 54 [some (.ref o), some (.int (nI (tf_bs T k))), some (.int (nI k)), some (.int (nI (T k)))] [.int (nI (T k))] S rfl ⟨by decide, by decide, rfl⟩ trivial ?_
            refine tf_cS hx ftX11_boardFault (nx := 57) (As := [.int (nI (T k))]) (rest := []) (st2 := [.int (if tf_lt (T k) = true then 1 else 0)]) ((by have h := m_isLetter (G := G) (S := S) (nI (T k)); rw [tf_lt_i (hT2 _)] at h; exact h)) rfl lX11_36 rfl ⟨rfl, by decide, by decide, by decide, rfl, rfl⟩ ?_
            by_cases c3 : tf_lt (T k) = true
            · rw [if_pos c3]
              refine tf_go hx ftX11_boardFault 1 [false] 60 [some (.ref o), some (.int (nI (tf_bs T k))), some (.int (nI k)), some (.int (nI (T k)))] [] S rfl ⟨by decide, by decide, rfl⟩ ⟨trivial, (by decide)⟩ ?_
              obtain ⟨l1, l2⟩ := tf_lt_y c3
              refine tf_go hx ftX11_boardFault 1 [] 61 [some (.ref o), some (.int (nI (tf_bs T k))), some (.int (nI k)), some (.int (nI (T k)))] [.int (nI (T k))] S rfl ⟨by decide, by decide, rfl⟩ trivial ?_
              refine tf_cS hx ftX11_boardFault (nx := 64) (As := [.int (nI (T k))]) (rest := []) (st2 := [.int (if tf_lt (T k) = true then 1 else 0)]) ((by have h := m_isLetter (G := G) (S := S) (nI (T k)); rw [tf_lt_i (hT2 _)] at h; exact h)) rfl lX11_36 rfl ⟨rfl, by decide, by decide, by decide, rfl, rfl⟩ ?_
              rw [if_pos c3]
              refine tf_go hx ftX11_boardFault 1 [false] 67 [some (.ref o), some (.int (nI (tf_bs T k))), some (.int (nI k)), some (.int (nI (T k)))] [] S rfl ⟨by decide, by decide, rfl⟩ ⟨trivial, (by decide)⟩ ?_
              refine tf_go hx ftX11_boardFault 7 [] 75 [some (.ref o), some (.int (nI (tf_bs T k))), some (.int (nI k)), some (.int (nI (T k)))] [.int (((nI (tf_bs T k)) >>> (((nI (T k)) - 97) &&& 31)) &&& 1)] S rfl ⟨by decide, by decide, rfl⟩ trivial ?_
              rw [show ((nI (T k)) - 97) = nI ((T k) - 97) from (tf_sub (a := (T k)) (b := 97) rfl (rfl : (97 : Int32) = nI 97) (by have := hT2 k; omega))]
              rw [tf_tst sl (show T k - 97 < 26 by omega)]
              refine tf_go hx ftX11_boardFault 1 [] 76 [some (.ref o), some (.int (nI (tf_bs T k))), some (.int (nI k)), some (.int (nI (T k)))] [.int 1, .int (nI (if (tf_bs T k).testBit (T k - 97) = true then 1 else 0))] S rfl ⟨by decide, by decide, rfl⟩ trivial ?_
              by_cases c4 : (tf_bs T k).testBit (T k - 97) = true
              · rw [if_pos c4]
                refine tf_go hx ftX11_boardFault 2 [false] 80 [some (.ref o), some (.int (nI (tf_bs T k))), some (.int (nI k)), some (.int (nI (T k)))] [.int (nI k)] S rfl ⟨by decide, by decide, rfl⟩ ⟨trivial, (tf_neF (a := 1) (b := 1) rfl (rfl : (1 : Int32) = nI 1) (by omega))⟩ ?_
                exact tf_ret ftX11_boardFault hR rfl ⟨by decide, by decide⟩ rfl rfl (by rw [← he, tf_fst_y (by unfold tf_bb; simp [c1, c3, c4, c2]), if_pos (by omega), tf_on_y (by omega)]; rfl)
              · rw [if_neg c4]
                refine tf_go hx ftX11_boardFault 1 [true] 81 [some (.ref o), some (.int (nI (tf_bs T k))), some (.int (nI k)), some (.int (nI (T k)))] [] S rfl ⟨by decide, by decide, rfl⟩ ⟨trivial, (tf_eqF (a := 0) (b := 1) rfl (rfl : (1 : Int32) = nI 1) (by omega) (by omega) (by omega))⟩ ?_
                refine tf_go hx ftX11_boardFault 2 [] 83 [some (.ref o), some (.int (nI (tf_bs T k))), some (.int (nI k)), some (.int (nI (T k)))] [.int (nI (T k)), .int (nI (tf_bs T k))] S rfl ⟨by decide, by decide, rfl⟩ trivial ?_
                refine tf_cS hx ftX11_boardFault (nx := 86) (As := [.int (nI (T k))]) (rest := [.int (nI (tf_bs T k))]) (st2 := [.int (if tf_lt (T k) = true then 1 else 0), .int (nI (tf_bs T k))]) ((by have h := m_isLetter (G := G) (S := S) (nI (T k)); rw [tf_lt_i (hT2 _)] at h; exact h)) rfl lX11_36 rfl ⟨rfl, by decide, by decide, by decide, rfl, rfl⟩ ?_
                rw [if_pos c3]
                refine tf_go hx ftX11_boardFault 1 [false] 89 [some (.ref o), some (.int (nI (tf_bs T k))), some (.int (nI k)), some (.int (nI (T k)))] [.int (nI (tf_bs T k))] S rfl ⟨by decide, by decide, rfl⟩ ⟨trivial, (by decide)⟩ ?_
                refine tf_go hx ftX11_boardFault 6 [] 99 [some (.ref o), some (.int (nI (tf_bs T k))), some (.int (nI k)), some (.int (nI (T k)))] [.int (1 <<< (((nI (T k)) - 97) &&& 31)), .int (nI (tf_bs T k))] S rfl ⟨by decide, by decide, rfl⟩ trivial ?_
                rw [show ((nI (T k)) - 97) = nI ((T k) - 97) from (tf_sub (a := (T k)) (b := 97) rfl (rfl : (97 : Int32) = nI 97) (by have := hT2 k; omega))]
                rw [tf_shl (show T k - 97 < 26 by omega)]
                refine tf_go hx ftX11_boardFault 1 [] 100 [some (.ref o), some (.int (nI (tf_bs T k))), some (.int (nI k)), some (.int (nI (T k)))] [.int ((nI (tf_bs T k)) ||| (nI (2 ^ (T k - 97))))] S rfl ⟨by decide, by decide, rfl⟩ trivial ?_
                rw [tf_or]
                refine tf_go hx ftX11_boardFault 3 [] 4 [some (.ref o), some (.int (nI (tf_bs T k ||| 2 ^ (T k - 97)))), some (.int ((nI k) + 1)), some (.int (nI (T k)))] [] S rfl ⟨by decide, by decide, rfl⟩ trivial ?_
                rw [show ((nI k) + 1) = nI (k + 1) from (tf_add (a := k) (b := 1) rfl (rfl : (1 : Int32) = nI 1))]
                have se : tf_bs T (k + 1) = tf_bs T k ||| 2 ^ (T k - 97) := by rw [tf_bs_s, if_pos ⟨c1, c3⟩]
                refine tf_fgt [some (.ref o), some (.int (nI (tf_bs T k ||| 2 ^ (T k - 97)))), some (.int (nI (k + 1))), none] (by simp [tf_lss]) ?_
                rw [← se]
                exact ih (k + 1) (by omega) (by rw [← he, tf_fst_n (by unfold tf_bb; simp [show ¬ n ≤ k by omega, c1, c3, c4, c2])]) (by omega)
            · rw [if_neg c3]
              refine tf_go hx ftX11_boardFault 2 [true] 80 [some (.ref o), some (.int (nI (tf_bs T k))), some (.int (nI k)), some (.int (nI (T k)))] [.int (nI k)] S rfl ⟨by decide, by decide, rfl⟩ ⟨trivial, (by decide)⟩ ?_
              exact tf_ret ftX11_boardFault hR rfl ⟨by decide, by decide⟩ rfl rfl (by rw [← he, tf_fst_y (by unfold tf_bb; simp [c1, c2, c3]), if_pos (by omega), tf_on_y (by omega)]; rfl)
      · refine tf_go hx ftX11_boardFault 3 [false] 22 [some (.ref o), some (.int (nI (tf_bs T k))), some (.int (nI k)), none] [.int (S o 5)] S rfl ⟨by decide, by decide, rfl⟩ ⟨⟨trivial, (tf_ltF (a := k) (b := n) rfl rfl (by omega) (by omega) (by omega))⟩, (by first | assumption | rfl | decide | omega)⟩ ?_
        rw [show (S o 5) = nI n from hn]
        exact tf_ret ftX11_boardFault hR rfl ⟨by decide, by decide⟩ rfl rfl (by rw [← he, tf_fst_y (by unfold tf_bb; simp; omega), if_pos (by omega), tf_on_y (by omega), show k = n by omega]; rfl)
  exact loop 32 0 (by omega) rfl (by omega)

