def tX11_board : tf_T := [(0, .iload_n 1, 1, 0, 0),
  (1, .invokestatic 40, 4, 0, 0),
  (4, .ifCond .ne 9, 7, 13, 0),
  (7, .aload_n 0, 8, 0, 0),
  (8, .iconst (-1), 9, 0, (-1)),
  (9, .invokevirtual 26, 12, 0, 0),
  (12, .ireturn, 13, 0, 0),
  (13, .aload_n 0, 14, 0, 0),
  (14, .invokevirtual 43, 17, 0, 0),
  (17, .istore_n 2, 18, 0, 0),
  (18, .aload_n 0, 19, 0, 0),
  (19, .iconst 0, 20, 0, 0),
  (20, .putfield 30, 23, 0, 0),
  (23, .iload_n 2, 24, 0, 0),
  (24, .ifCond .lt 8, 27, 32, 0),
  (27, .bipush (-20), 29, 0, (-20)),
  (29, .iload_n 2, 30, 0, 0),
  (30, .isub, 31, 0, 0),
  (31, .ireturn, 32, 0, 0),
  (32, .iconst 0, 33, 0, 0),
  (33, .istore_n 3, 34, 0, 0),
  (34, .iconst 0, 35, 0, 0),
  (35, .istore 4, 37, 0, 0),
  (37, .iload 4, 39, 0, 0),
  (39, .bipush 30, 41, 0, 30),
  (41, .if_icmp .ge 69, 44, 110, 0),
  (44, .aload_n 0, 45, 0, 0),
  (45, .getfield 19, 48, 0, 0),
  (48, .iload 4, 50, 0, 0),
  (50, .iload 4, 52, 0, 0),
  (52, .bipush 10, 54, 0, 10),
  (54, .idiv, 55, 0, 0),
  (55, .iadd, 56, 0, 0),
  (56, .iaload, 57, 0, 0),
  (57, .istore 5, 59, 0, 0),
  (59, .aload_n 0, 60, 0, 0),
  (60, .getfield 13, 63, 0, 0),
  (63, .bipush 30, 65, 0, 30),
  (65, .iload_n 1, 66, 0, 0),
  (66, .imul, 67, 0, 0),
  (67, .iload 4, 69, 0, 0),
  (69, .iadd, 70, 0, 0),
  (70, .iload 5, 72, 0, 0),
  (72, .bipush 46, 74, 0, 46),
  (74, .if_icmp .ne 7, 77, 81, 0),
  (77, .iconst 0, 78, 0, 0),
  (78, .goto 10, 81, 88, 0),
  (81, .iload 5, 83, 0, 0),
  (83, .bipush 97, 85, 0, 97),
  (85, .isub, 86, 0, 0),
  (86, .iconst 1, 87, 0, 1),
  (87, .iadd, 88, 0, 0),
  (88, .iastore, 89, 0, 0),
  (89, .iload_n 3, 90, 0, 0),
  (90, .iload 5, 92, 0, 0),
  (92, .bipush 46, 94, 0, 46),
  (94, .if_icmp .ne 7, 97, 101, 0),
  (97, .iconst 0, 98, 0, 0),
  (98, .goto 4, 101, 102, 0),
  (101, .iconst 1, 102, 0, 1),
  (102, .iadd, 103, 0, 0),
  (103, .istore_n 3, 104, 0, 0),
  (104, .iinc 4 1, 107, 0, 1),
  (107, .goto (-70), 110, 37, 0),
  (110, .iload_n 3, 111, 0, 0),
  (111, .ireturn, 112, 0, 0)]
set_option maxRecDepth 100000 in
theorem okX11_board : tf_okT cX11_board tX11_board := by unfold tf_okT; decide +kernel
theorem ftX11_board : 1 ≤ 3 ∧ tf_okF RX11 fX11 ∧ tf_okT cX11_board tX11_board := ⟨by decide, okfX11, okX11_board⟩
def mX11_board : tf_M := (yX11_board, cX11_board, 6, (some .int))

def tX11_text : tf_T := [(0, .aload_n 0, 1, 0, 0),
  (1, .getfield 30, 4, 0, 0),
  (4, .bipush 40, 6, 0, 40),
  (6, .if_icmp .le 10, 9, 16, 0),
  (9, .aload_n 0, 10, 0, 0),
  (10, .bipush (-6), 12, 0, (-6)),
  (12, .invokevirtual 26, 15, 0, 0),
  (15, .ireturn, 16, 0, 0),
  (16, .aload_n 0, 17, 0, 0),
  (17, .iload_n 1, 18, 0, 0),
  (18, .ifCond .ne 7, 21, 25, 0),
  (21, .iconst 1, 22, 0, 1),
  (22, .goto 4, 25, 26, 0),
  (25, .iconst 0, 26, 0, 0),
  (26, .invokevirtual 47, 29, 0, 0),
  (29, .istore_n 2, 30, 0, 0),
  (30, .aload_n 0, 31, 0, 0),
  (31, .getfield 30, 34, 0, 0),
  (34, .istore_n 3, 35, 0, 0),
  (35, .aload_n 0, 36, 0, 0),
  (36, .iconst 0, 37, 0, 0),
  (37, .putfield 30, 40, 0, 0),
  (40, .iload_n 2, 41, 0, 0),
  (41, .ifCond .lt 8, 44, 49, 0),
  (44, .bipush (-20), 46, 0, (-20)),
  (46, .iload_n 2, 47, 0, 0),
  (47, .isub, 48, 0, 0),
  (48, .ireturn, 49, 0, 0),
  (49, .iconst 0, 50, 0, 0),
  (50, .istore 4, 52, 0, 0),
  (52, .iload 4, 54, 0, 0),
  (54, .iload_n 3, 55, 0, 0),
  (55, .if_icmp .ge 57, 58, 112, 0),
  (58, .aload_n 0, 59, 0, 0),
  (59, .getfield 13, 62, 0, 0),
  (62, .iload_n 1, 63, 0, 0),
  (63, .ifCond .eq 9, 66, 72, 0),
  (66, .sipush 144, 69, 0, 144),
  (69, .goto 6, 72, 75, 0),
  (72, .sipush 184, 75, 0, 184),
  (75, .iload 4, 77, 0, 0),
  (77, .iadd, 78, 0, 0),
  (78, .aload_n 0, 79, 0, 0),
  (79, .getfield 19, 82, 0, 0),
  (82, .iload 4, 84, 0, 0),
  (84, .iaload, 85, 0, 0),
  (85, .bipush 60, 87, 0, 60),
  (87, .if_icmp .ne 8, 90, 95, 0),
  (90, .bipush 26, 92, 0, 26),
  (92, .goto 13, 95, 105, 0),
  (95, .aload_n 0, 96, 0, 0),
  (96, .getfield 19, 99, 0, 0),
  (99, .iload 4, 101, 0, 0),
  (101, .iaload, 102, 0, 0),
  (102, .bipush 97, 104, 0, 97),
  (104, .isub, 105, 0, 0),
  (105, .iastore, 106, 0, 0),
  (106, .iinc 4 1, 109, 0, 1),
  (109, .goto (-57), 112, 52, 0),
  (112, .aload_n 0, 113, 0, 0),
  (113, .getfield 13, 116, 0, 0),
  (116, .iload_n 1, 117, 0, 0),
  (117, .ifCond .eq 9, 120, 126, 0),
  (120, .sipush 364, 123, 0, 364),
  (123, .goto 6, 126, 129, 0),
  (126, .sipush 365, 129, 0, 365),
  (129, .iload_n 3, 130, 0, 0),
  (130, .iastore, 131, 0, 0),
  (131, .iload_n 3, 132, 0, 0),
  (132, .ireturn, 133, 0, 0)]
set_option maxRecDepth 100000 in
theorem okX11_text : tf_okT cX11_text tX11_text := by unfold tf_okT; decide +kernel
theorem ftX11_text : 1 ≤ 3 ∧ tf_okF RX11 fX11 ∧ tf_okT cX11_text tX11_text := ⟨by decide, okfX11, okX11_text⟩
def mX11_text : tf_M := (yX11_text, cX11_text, 5, (some .int))

def tX11_word : tf_T := [(0, .aload_n 0, 1, 0, 0),
  (1, .getfield 13, 4, 0, 0),
  (4, .sipush 366, 7, 0, 366),
  (7, .iaload, 8, 0, 0),
  (8, .bipush 10, 10, 0, 10),
  (10, .if_icmp .ne 10, 13, 20, 0),
  (13, .aload_n 0, 14, 0, 0),
  (14, .bipush (-6), 16, 0, (-6)),
  (16, .invokevirtual 26, 19, 0, 0),
  (19, .ireturn, 20, 0, 0),
  (20, .aload_n 0, 21, 0, 0),
  (21, .iconst 0, 22, 0, 0),
  (22, .invokevirtual 47, 25, 0, 0),
  (25, .istore_n 1, 26, 0, 0),
  (26, .aload_n 0, 27, 0, 0),
  (27, .getfield 30, 30, 0, 0),
  (30, .istore_n 2, 31, 0, 0),
  (31, .aload_n 0, 32, 0, 0),
  (32, .iconst 0, 33, 0, 0),
  (33, .putfield 30, 36, 0, 0),
  (36, .iload_n 1, 37, 0, 0),
  (37, .ifCond .lt 8, 40, 45, 0),
  (40, .bipush (-20), 42, 0, (-20)),
  (42, .iload_n 1, 43, 0, 0),
  (43, .isub, 44, 0, 0),
  (44, .ireturn, 45, 0, 0),
  (45, .iload_n 2, 46, 0, 0),
  (46, .iconst 2, 47, 0, 2),
  (47, .if_icmp .lt 9, 50, 56, 0),
  (50, .iload_n 2, 51, 0, 0),
  (51, .bipush 8, 53, 0, 8),
  (53, .if_icmp .le 10, 56, 63, 0),
  (56, .aload_n 0, 57, 0, 0),
  (57, .bipush (-3), 59, 0, (-3)),
  (59, .invokevirtual 26, 62, 0, 0),
  (62, .ireturn, 63, 0, 0),
  (63, .sipush 224, 66, 0, 224),
  (66, .bipush 10, 68, 0, 10),
  (68, .aload_n 0, 69, 0, 0),
  (69, .getfield 13, 72, 0, 0),
  (72, .sipush 366, 75, 0, 366),
  (75, .iaload, 76, 0, 0),
  (76, .imul, 77, 0, 0),
  (77, .iadd, 78, 0, 0),
  (78, .istore_n 3, 79, 0, 0),
  (79, .aload_n 0, 80, 0, 0),
  (80, .getfield 13, 83, 0, 0),
  (83, .iload_n 3, 84, 0, 0),
  (84, .iload_n 2, 85, 0, 0),
  (85, .iastore, 86, 0, 0),
  (86, .aload_n 0, 87, 0, 0),
  (87, .getfield 13, 90, 0, 0),
  (90, .iload_n 3, 91, 0, 0),
  (91, .iconst 1, 92, 0, 1),
  (92, .iadd, 93, 0, 0),
  (93, .iconst 0, 94, 0, 0),
  (94, .iastore, 95, 0, 0),
  (95, .iconst 0, 96, 0, 0),
  (96, .istore 4, 98, 0, 0),
  (98, .iload 4, 100, 0, 0),
  (100, .iload_n 2, 101, 0, 0),
  (101, .if_icmp .ge 30, 104, 131, 0),
  (104, .aload_n 0, 105, 0, 0),
  (105, .getfield 13, 108, 0, 0),
  (108, .iload_n 3, 109, 0, 0),
  (109, .iconst 2, 110, 0, 2),
  (110, .iadd, 111, 0, 0),
  (111, .iload 4, 113, 0, 0),
  (113, .iadd, 114, 0, 0),
  (114, .aload_n 0, 115, 0, 0),
  (115, .getfield 19, 118, 0, 0),
  (118, .iload 4, 120, 0, 0),
  (120, .iaload, 121, 0, 0),
  (121, .bipush 97, 123, 0, 97),
  (123, .isub, 124, 0, 0),
  (124, .iastore, 125, 0, 0),
  (125, .iinc 4 1, 128, 0, 1),
  (128, .goto (-30), 131, 98, 0),
  (131, .aload_n 0, 132, 0, 0),
  (132, .getfield 13, 135, 0, 0),
  (135, .sipush 366, 138, 0, 366),
  (138, .dup2, 139, 0, 0),
  (139, .iaload, 140, 0, 0),
  (140, .iconst 1, 141, 0, 1),
  (141, .iadd, 142, 0, 0),
  (142, .iastore, 143, 0, 0),
  (143, .aload_n 0, 144, 0, 0),
  (144, .getfield 13, 147, 0, 0),
  (147, .sipush 366, 150, 0, 366),
  (150, .iaload, 151, 0, 0),
  (151, .iconst 1, 152, 0, 1),
  (152, .isub, 153, 0, 0),
  (153, .ireturn, 154, 0, 0)]
set_option maxRecDepth 100000 in
theorem okX11_word : tf_okT cX11_word tX11_word := by unfold tf_okT; decide +kernel
theorem ftX11_word : 1 ≤ 3 ∧ tf_okF RX11 fX11 ∧ tf_okT cX11_word tX11_word := ⟨by decide, okfX11, okX11_word⟩
def mX11_word : tf_M := (yX11_word, cX11_word, 5, (some .int))

set_option maxRecDepth 100000 in
theorem lX11_43 : tf_okV RX11 43 0 8 mX11_boardFault := by unfold tf_okV tf_okL; decide +kernel

set_option maxRecDepth 100000 in
theorem lX11_47 : tf_okV RX11 47 1 8 mX11_lettersFault := by unfold tf_okV tf_okL; decide +kernel

set_option maxHeartbeats 2000000 in
theorem p_feed {G : tf_G} {S : tf_Sg} {o : Nat} {A : tf_A} (n : Int32) (y : Int64) (ho : tf_mo G o) (hd : tf_md G o) (hA : tf_okA A) (hM : tf_ms G S o A)  : tf_pm mX11_feed 2 G S o [.ref o, .int n, .long y] (s_feed A n y) := by
  obtain ⟨h1, ⟨r0, t0, n0⟩, ⟨r1, t1, n1⟩, ⟨r2, t2, n2⟩, ⟨r4, t4, n4⟩⟩ := id ho
  obtain ⟨hg, hb, hA3, hA4, hA5, hA6⟩ := id hA
  have hs := hM.1
  have hf : tf_sf G S o A.1 := ⟨hM.1, hb⟩
  obtain ⟨⟨g1, g2, g3, g4⟩, g5, g6, g7, g8, g9, g10, g11⟩ := id hg
  obtain ⟨z0, z1, z2, z4⟩ := tf_mo_ne ho
  obtain ⟨m01, m02, m04, m12, m14, m24⟩ := id hd
  unfold s_feed
  by_cases e1 : n < 1
  · rw [if_pos e1]
    refine ⟨tf_rfS G S o 4, tf_Fn_of (own := RX11) false ⟨by decide, rfl, by decide⟩ (Nat.le_of_ble_eq_true rfl) trivial (fun x hx hR => ?_), tf_ms_ref ho hd hM 4, tf_fm_0⟩
    show tf_K x 0 0 G S 0 [some (.ref o), some (.int n), some (.long y), none, none] []
    refine tf_go hx ftX11_feed 2 [] 2 [some (.ref o), some (.int n), some (.long y), none, none] [.int 1, .int n] S rfl ⟨by decide, by decide, rfl⟩ trivial ?_
    refine tf_go hx ftX11_feed 3 [false] 8 [some (.ref o), some (.int n), some (.long y), none, none] [.int (-4), .ref o] S rfl ⟨by decide, by decide, rfl⟩ ⟨trivial, (Int32.not_le.mpr e1)⟩ ?_
    refine tf_cV hx ftX11_feed (nx := 11) (As := [.int (-4)]) (rest := []) (st2 := [.int (-4)]) (m_ref4 ho) rfl lX11_26 (by first | assumption | rfl | decide) rfl ⟨rfl, by decide, by decide, by decide, rfl, rfl⟩ ?_
    exact tf_ret ftX11_feed hR rfl ⟨by decide, by decide⟩ rfl rfl rfl
  · rw [if_neg e1]
    by_cases e2 : 8 < n
    · rw [if_pos (Or.inl e2)]
      refine ⟨tf_rfS G S o 6, tf_Fn_of (own := RX11) false ⟨by decide, rfl, by decide⟩ (Nat.le_of_ble_eq_true rfl) trivial (fun x hx hR => ?_), tf_ms_ref ho hd hM 6, tf_fm_0⟩
      show tf_K x 0 0 G S 0 [some (.ref o), some (.int n), some (.long y), none, none] []
      refine tf_go hx ftX11_feed 2 [] 2 [some (.ref o), some (.int n), some (.long y), none, none] [.int 1, .int n] S rfl ⟨by decide, by decide, rfl⟩ trivial ?_
      refine tf_go hx ftX11_feed 1 [true] 12 [some (.ref o), some (.int n), some (.long y), none, none] [] S rfl ⟨by decide, by decide, rfl⟩ ⟨trivial, (Int32.not_lt.mp e1)⟩ ?_
      refine tf_go hx ftX11_feed 2 [] 15 [some (.ref o), some (.int n), some (.long y), none, none] [.int 8, .int n] S rfl ⟨by decide, by decide, rfl⟩ trivial ?_
      refine tf_go hx ftX11_feed 3 [true] 32 [some (.ref o), some (.int n), some (.long y), none, none] [.int (-6), .ref o] S rfl ⟨by decide, by decide, rfl⟩ ⟨trivial, e2⟩ ?_
      refine tf_cV hx ftX11_feed (nx := 35) (As := [.int (-6)]) (rest := []) (st2 := [.int (-6)]) (m_ref6 ho) rfl lX11_26 (by first | assumption | rfl | decide) rfl ⟨rfl, by decide, by decide, by decide, rfl, rfl⟩ ?_
      exact tf_ret ftX11_feed hR rfl ⟨by decide, by decide⟩ rfl rfl rfl
    · obtain ⟨n1, n1_le, n1_eq⟩ := nI_of2 (M := 8) (n := 8) (x := n) (by decide) (fun h => e1 (Int32.lt_trans h (by decide))) (Int32.not_lt.mp e2)
      subst n1_eq
      rw [tf_cl_nI (show n1 < 2147483648 by omega)]
      by_cases e3 : 48 < A.2.2.1 + n1
      · rw [if_pos (Or.inr e3)]
        refine ⟨tf_rfS G S o 6, tf_Fn_of (own := RX11) false ⟨by decide, rfl, by decide⟩ (Nat.le_of_ble_eq_true rfl) trivial (fun x hx hR => ?_), tf_ms_ref ho hd hM 6, tf_fm_0⟩
        show tf_K x 0 0 G S 0 [some (.ref o), some (.int (nI n1)), some (.long y), none, none] []
        refine tf_go hx ftX11_feed 2 [] 2 [some (.ref o), some (.int (nI n1)), some (.long y), none, none] [.int 1, .int (nI n1)] S rfl ⟨by decide, by decide, rfl⟩ trivial ?_
        refine tf_go hx ftX11_feed 1 [true] 12 [some (.ref o), some (.int (nI n1)), some (.long y), none, none] [] S rfl ⟨by decide, by decide, rfl⟩ ⟨trivial, (Int32.not_lt.mp e1)⟩ ?_
        refine tf_go hx ftX11_feed 2 [] 15 [some (.ref o), some (.int (nI n1)), some (.long y), none, none] [.int 8, .int (nI n1)] S rfl ⟨by decide, by decide, rfl⟩ trivial ?_
        refine tf_go hx ftX11_feed 1 [false] 18 [some (.ref o), some (.int (nI n1)), some (.long y), none, none] [] S rfl ⟨by decide, by decide, rfl⟩ ⟨trivial, e2⟩ ?_
        refine tf_go hx ftX11_feed 5 [] 26 [some (.ref o), some (.int (nI n1)), some (.long y), none, none] [.int 48, .int ((S o 5) + (nI n1))] S rfl ⟨by decide, by decide, rfl⟩ ⟨trivial, (by first | assumption | rfl | decide | omega)⟩ ?_
        rw [show ((S o 5) + (nI n1)) = nI (A.2.2.1 + n1) from (tf_add (a := A.2.2.1) (b := n1) hM.2.2.1 rfl)]
        refine tf_go hx ftX11_feed 3 [false] 32 [some (.ref o), some (.int (nI n1)), some (.long y), none, none] [.int (-6), .ref o] S rfl ⟨by decide, by decide, rfl⟩ ⟨trivial, (tf_leF (a := (A.2.2.1 + n1)) (b := 48) rfl (rfl : (48 : Int32) = nI 48) (by omega) (by omega) (by omega))⟩ ?_
        refine tf_cV hx ftX11_feed (nx := 35) (As := [.int (-6)]) (rest := []) (st2 := [.int (-6)]) (m_ref6 ho) rfl lX11_26 (by first | assumption | rfl | decide) rfl ⟨rfl, by decide, by decide, by decide, rfl, rfl⟩ ?_
        exact tf_ret ftX11_feed hR rfl ⟨by decide, by decide⟩ rfl rfl rfl
      · rw [if_neg (by rintro (h | h); exact e2 h; exact e3 h)]
        refine ⟨(tf_rw (tf_set S o 5 (nI (A.2.2.1 + n1))) (tf_rf G o 4) (tf_fd A.2.1 A.2.2.1 y n1)), tf_Fn_of (own := RX11) false ⟨by decide, rfl, by decide⟩ (Nat.le_of_ble_eq_true rfl) trivial (fun x hx hR => ?_), (tf_ms_t ho hd (tf_ms_tn ho hM (A.2.2.1 + n1)) (tf_fd A.2.1 A.2.2.1 y n1)), (tf_fm_tr tf_fm_o tf_fm_4)⟩
        show tf_K x 0 0 G S 0 [some (.ref o), some (.int (nI n1)), some (.long y), none, none] []
        refine tf_go hx ftX11_feed 2 [] 2 [some (.ref o), some (.int (nI n1)), some (.long y), none, none] [.int 1, .int (nI n1)] S rfl ⟨by decide, by decide, rfl⟩ trivial ?_
        refine tf_go hx ftX11_feed 1 [true] 12 [some (.ref o), some (.int (nI n1)), some (.long y), none, none] [] S rfl ⟨by decide, by decide, rfl⟩ ⟨trivial, (Int32.not_lt.mp e1)⟩ ?_
        refine tf_go hx ftX11_feed 2 [] 15 [some (.ref o), some (.int (nI n1)), some (.long y), none, none] [.int 8, .int (nI n1)] S rfl ⟨by decide, by decide, rfl⟩ trivial ?_
        refine tf_go hx ftX11_feed 1 [false] 18 [some (.ref o), some (.int (nI n1)), some (.long y), none, none] [] S rfl ⟨by decide, by decide, rfl⟩ ⟨trivial, e2⟩ ?_
        refine tf_go hx ftX11_feed 5 [] 26 [some (.ref o), some (.int (nI n1)), some (.long y), none, none] [.int 48, .int ((S o 5) + (nI n1))] S rfl ⟨by decide, by decide, rfl⟩ ⟨trivial, (by first | assumption | rfl | decide | omega)⟩ ?_
        rw [show ((S o 5) + (nI n1)) = nI (A.2.2.1 + n1) from (tf_add (a := A.2.2.1) (b := n1) hM.2.2.1 rfl)]
        refine tf_go hx ftX11_feed 3 [true] 39 [some (.ref o), some (.int (nI n1)), some (.long y), none, some (.int 0)] [] S rfl ⟨by decide, by decide, rfl⟩ ⟨trivial, (tf_leT (a := (A.2.2.1 + n1)) (b := 48) rfl (rfl : (48 : Int32) = nI 48) (by omega) (by omega) (by omega))⟩ ?_
        have hid : tf_rw (tf_set S o 5 (nI (A.2.2.1 + 0))) (tf_rf G o 4) A.2.1 = S := by rw [Nat.add_zero, tf_set_id hM.2.2.1]; exact tf_rw_id hM.2.1
        have loop : ∀ (m k : Nat), k + m = n1 → tf_K x 0 0 G (tf_rw (tf_set S o 5 (nI (A.2.2.1 + k))) (tf_rf G o 4) (tf_fd A.2.1 A.2.2.1 y k)) 39 [some (.ref o), some (.int (nI n1)), some (.long y), none, some (.int (nI k))] [] := by
          intro m
          induction m with
          | zero =>
            intro k hk
            have rn : (tf_rw (tf_set S o 5 (nI (A.2.2.1 + k))) (tf_rf G o 4) (tf_fd A.2.1 A.2.2.1 y k)) o 5 = nI (A.2.2.1 + k) := by rw [tf_rw_n (Ne.symm z4), tf_set_s]
            refine tf_go hx ftX11_feed 2 [] 42 [some (.ref o), some (.int (nI n1)), some (.long y), none, some (.int (nI k))] [.int (nI n1), .int (nI k)] (tf_rw (tf_set S o 5 (nI (A.2.2.1 + k))) (tf_rf G o 4) (tf_fd A.2.1 A.2.2.1 y k)) rfl ⟨by decide, by decide, rfl⟩ trivial ?_
            refine tf_go hx ftX11_feed 3 [true] 86 [some (.ref o), some (.int (nI n1)), some (.long y), none, some (.int (nI k))] [.int ((tf_rw (tf_set S o 5 (nI (A.2.2.1 + k))) (tf_rf G o 4) (tf_fd A.2.1 A.2.2.1 y k)) o 5)] (tf_rw (tf_set S o 5 (nI (A.2.2.1 + k))) (tf_rf G o 4) (tf_fd A.2.1 A.2.2.1 y k)) rfl ⟨by decide, by decide, rfl⟩ ⟨⟨trivial, (tf_leT (a := n1) (b := k) rfl rfl (by omega) (by omega) (by omega))⟩, (by first | assumption | rfl | decide | omega)⟩ ?_
            rw [show ((tf_rw (tf_set S o 5 (nI (A.2.2.1 + k))) (tf_rf G o 4) (tf_fd A.2.1 A.2.2.1 y k)) o 5) = nI (A.2.2.1 + k) from rn]
            exact tf_ret ftX11_feed hR rfl ⟨by decide, by decide⟩ rfl (by rw [show k = n1 by omega]) (by rw [show n1 = k by omega]; rfl)
          | succ m ih =>
            intro k hk
            have rn : (tf_rw (tf_set S o 5 (nI (A.2.2.1 + k))) (tf_rf G o 4) (tf_fd A.2.1 A.2.2.1 y k)) o 5 = nI (A.2.2.1 + k) := by rw [tf_rw_n (Ne.symm z4), tf_set_s]
            refine tf_go hx ftX11_feed 2 [] 42 [some (.ref o), some (.int (nI n1)), some (.long y), none, some (.int (nI k))] [.int (nI n1), .int (nI k)] (tf_rw (tf_set S o 5 (nI (A.2.2.1 + k))) (tf_rf G o 4) (tf_fd A.2.1 A.2.2.1 y k)) rfl ⟨by decide, by decide, rfl⟩ trivial ?_
            refine tf_go hx ftX11_feed 1 [false] 45 [some (.ref o), some (.int (nI n1)), some (.long y), none, some (.int (nI k))] [] (tf_rw (tf_set S o 5 (nI (A.2.2.1 + k))) (tf_rf G o 4) (tf_fd A.2.1 A.2.2.1 y k)) rfl ⟨by decide, by decide, rfl⟩ ⟨trivial, (tf_leF (a := n1) (b := k) rfl rfl (by omega) (by omega) (by omega))⟩ ?_
            refine tf_go hx ftX11_feed 12 [] 65 [some (.ref o), some (.int (nI n1)), some (.long y), none, some (.int (nI k))] [.int (((y >>> (((8 * (nI k)) : Int32).toInt64 &&& 63)) &&& (Int64.ofNat 255))).toInt32, .int ((tf_rw (tf_set S o 5 (nI (A.2.2.1 + k))) (tf_rf G o 4) (tf_fd A.2.1 A.2.2.1 y k)) o 5), .ref (tf_rf G o 4)] (tf_rw (tf_set S o 5 (nI (A.2.2.1 + k))) (tf_rf G o 4) (tf_fd A.2.1 A.2.2.1 y k)) rfl ⟨by decide, by decide, rfl⟩ ⟨⟨trivial, ⟨by first | assumption | rfl | decide | omega, by first | assumption | rfl | decide | omega⟩⟩, (by first | assumption | rfl | decide | omega)⟩ ?_
            rw [show ((tf_rw (tf_set S o 5 (nI (A.2.2.1 + k))) (tf_rf G o 4) (tf_fd A.2.1 A.2.2.1 y k)) o 5) = nI (A.2.2.1 + k) from rn]
            rw [show (8 * (nI k)) = nI (8 * k) from (tf_mul (a := 8) (b := k) (rfl : (8 : Int32) = nI 8) rfl)]
            have bm := tf_by_m y (show k < 8 by omega)
            rw [show ((8 : Int32) * nI k) = nI (8 * k) from (tf_mul (a := 8) (b := k) (rfl : (8 : Int32) = nI 8) rfl)] at bm
            rw [show ((((y >>> (((nI (8 * k)) : Int32).toInt64 &&& 63)) &&& (Int64.ofNat 255))).toInt32) = nI (tf_by y k) from bm]
            refine tf_go hx ftX11_feed 1 [] 66 [some (.ref o), some (.int (nI n1)), some (.long y), none, some (.int (nI k))] [] (tf_set (tf_rw (tf_set S o 5 (nI (A.2.2.1 + k))) (tf_rf G o 4) (tf_fd A.2.1 A.2.2.1 y k)) (tf_rf G o 4) (Int32.toNatClampNeg (nI (A.2.2.1 + k))) (nI (tf_by y k))) rfl ⟨by decide, by decide, rfl⟩ ⟨trivial, ⟨by first | assumption | rfl | decide | omega, by first | assumption | exact tf_in (n := (A.2.2.1 + k)) rfl (by first | assumption | rfl) (by omega) (by decide)⟩⟩ ?_
            rw [show Int32.toNatClampNeg (nI (A.2.2.1 + k)) = (A.2.2.1 + k) from tf_cln rfl (by omega)]
            rw [tf_rw_u2, tf_fd_s]
            have rm : (tf_rw (tf_set S o 5 (nI (A.2.2.1 + k))) (tf_rf G o 4) (tf_fd A.2.1 A.2.2.1 y (k + 1))) o 5 = nI (A.2.2.1 + k) := by rw [tf_rw_n (Ne.symm z4), tf_set_s]
            refine tf_go hx ftX11_feed 5 [] 73 [some (.ref o), some (.int (nI n1)), some (.long y), none, some (.int (nI k))] [.int (((tf_rw (tf_set S o 5 (nI (A.2.2.1 + k))) (tf_rf G o 4) (tf_fd A.2.1 A.2.2.1 y (k + 1))) o 5) + 1), .ref o] (tf_rw (tf_set S o 5 (nI (A.2.2.1 + k))) (tf_rf G o 4) (tf_fd A.2.1 A.2.2.1 y (k + 1))) rfl ⟨by decide, by decide, rfl⟩ ⟨trivial, (by first | assumption | rfl | decide | omega)⟩ ?_
            rw [show (((tf_rw (tf_set S o 5 (nI (A.2.2.1 + k))) (tf_rf G o 4) (tf_fd A.2.1 A.2.2.1 y (k + 1))) o 5) + 1) = nI ((A.2.2.1 + k) + 1) from (tf_add (a := (A.2.2.1 + k)) (b := 1) rm (rfl : (1 : Int32) = nI 1))]
            refine tf_go hx ftX11_feed 1 [] 76 [some (.ref o), some (.int (nI n1)), some (.long y), none, some (.int (nI k))] [] (tf_set (tf_rw (tf_set S o 5 (nI (A.2.2.1 + k))) (tf_rf G o 4) (tf_fd A.2.1 A.2.2.1 y (k + 1))) o 5 (nI ((A.2.2.1 + k) + 1))) rfl ⟨by decide, by decide, rfl⟩ ⟨trivial, (by first | assumption | rfl | decide | omega)⟩ ?_
            rw [tf_sr1 (Ne.symm z4), show A.2.2.1 + k + 1 = A.2.2.1 + (k + 1) by omega]
            refine tf_go hx ftX11_feed 2 [] 39 [some (.ref o), some (.int (nI n1)), some (.long y), none, some (.int ((nI k) + 1))] [] (tf_rw (tf_set S o 5 (nI (A.2.2.1 + (k + 1)))) (tf_rf G o 4) (tf_fd A.2.1 A.2.2.1 y (k + 1))) rfl ⟨by decide, by decide, rfl⟩ trivial ?_
            rw [show ((nI k) + 1) = nI (k + 1) from (tf_add (a := k) (b := 1) rfl (rfl : (1 : Int32) = nI 1))]
            exact ih (k + 1) (by omega)
        have h0 := loop n1 0 (by omega)
        rw [tf_fd_0, hid] at h0
        exact h0

set_option maxHeartbeats 2000000 in
theorem p_board {G : tf_G} {S : tf_Sg} {o : Nat} {A : tf_A} (b : Int32) (ho : tf_mo G o) (hd : tf_md G o) (hA : tf_okA A) (hM : tf_ms G S o A)  : tf_pm mX11_board 3 G S o [.ref o, .int b] (s_board A b) := by
  obtain ⟨h1, ⟨r0, t0, n0⟩, ⟨r1, t1, n1⟩, ⟨r2, t2, n2⟩, ⟨r4, t4, n4⟩⟩ := id ho
  obtain ⟨hg, hb, hA3, hA4, hA5, hA6⟩ := id hA
  have hs := hM.1
  have hf : tf_sf G S o A.1 := ⟨hM.1, hb⟩
  obtain ⟨⟨g1, g2, g3, g4⟩, g5, g6, g7, g8, g9, g10, g11⟩ := id hg
  obtain ⟨z0, z1, z2, z4⟩ := tf_mo_ne ho
  obtain ⟨m01, m02, m04, m12, m14, m24⟩ := id hd
  unfold s_board
  by_cases c0 : ¬ b < 0 ∧ ¬ 4 ≤ b
  · rw [if_pos c0]
    obtain ⟨b1, b1_lt, b1_eq, b1_cl⟩ := tf_ok_nI (N := 4) (show tf_ok b _ from c0) rfl (by decide)
    try rw [b1_cl]
    subst b1_eq
    have fl := tf_bf_le A.2.1 A.2.2.1
    by_cases e1 : tf_bf A.2.1 A.2.2.1 < 49
    · rw [if_pos e1]
      refine ⟨(tf_set S o 5 0), tf_Fn_of (own := RX11) false ⟨by decide, rfl, by decide⟩ (Nat.le_of_ble_eq_true rfl) trivial (fun x hx hR => ?_), (tf_ms_tn ho hM 0), tf_fm_o⟩
      show tf_K x 0 0 G S 0 [some (.ref o), some (.int (nI b1)), none, none, none, none] []
      refine tf_go hx ftX11_board 1 [] 1 [some (.ref o), some (.int (nI b1)), none, none, none, none] [.int (nI b1)] S rfl ⟨by decide, by decide, rfl⟩ trivial ?_
      refine tf_cS hx ftX11_board (nx := 4) (As := [.int (nI b1)]) (rest := []) (st2 := [.int (if ¬ (nI b1) < 0 ∧ ¬ 4 ≤ (nI b1) then 1 else 0)]) (m_isBoard (nI b1)) rfl lX11_40 rfl ⟨rfl, by decide, by decide, by decide, rfl, rfl⟩ ?_
      rw [if_pos c0]
      refine tf_go hx ftX11_board 1 [true] 13 [some (.ref o), some (.int (nI b1)), none, none, none, none] [] S rfl ⟨by decide, by decide, rfl⟩ ⟨trivial, (by decide)⟩ ?_
      refine tf_go hx ftX11_board 1 [] 14 [some (.ref o), some (.int (nI b1)), none, none, none, none] [.ref o] S rfl ⟨by decide, by decide, rfl⟩ trivial ?_
      refine tf_cV hx ftX11_board (nx := 17) (As := []) (rest := []) (st2 := [.int (tf_on 49 (tf_bf A.2.1 A.2.2.1))]) (m_boardFault ho hM.2.1 hA4 hM.2.2.1 hA3) rfl lX11_43 (by first | assumption | rfl | decide) rfl ⟨rfl, by decide, by decide, by decide, rfl, rfl⟩ ?_
      rw [tf_on_y e1]
      refine tf_go hx ftX11_board 4 [] 23 [some (.ref o), some (.int (nI b1)), some (.int (nI (tf_bf A.2.1 A.2.2.1))), none, none, none] [] (tf_set S o 5 0) rfl ⟨by decide, by decide, rfl⟩ ⟨trivial, (by first | assumption | rfl | decide | omega)⟩ ?_
      refine tf_go hx ftX11_board 1 [] 24 [some (.ref o), some (.int (nI b1)), some (.int (nI (tf_bf A.2.1 A.2.2.1))), none, none, none] [.int (nI (tf_bf A.2.1 A.2.2.1))] (tf_set S o 5 0) rfl ⟨by decide, by decide, rfl⟩ trivial ?_
      refine tf_go hx ftX11_board 4 [false] 31 [some (.ref o), some (.int (nI b1)), some (.int (nI (tf_bf A.2.1 A.2.2.1))), none, none, none] [.int ((-20) - (nI (tf_bf A.2.1 A.2.2.1)))] (tf_set S o 5 0) rfl ⟨by decide, by decide, rfl⟩ ⟨trivial, (tf_ltF (a := (tf_bf A.2.1 A.2.2.1)) (b := 0) rfl (rfl : (0 : Int32) = nI 0) (by have := hA4 A.2.2.1; omega) (by have := hA4 A.2.2.1; omega) (by have := hA4 A.2.2.1; omega))⟩ ?_
      exact tf_ret ftX11_board hR rfl ⟨by decide, by decide⟩ rfl rfl rfl
    · rw [if_neg e1]
      obtain ⟨f1, f2⟩ := tf_bf_no e1
      have fv : ∀ k, k < 30 → A.2.1 (k + k / 10) = 46 ∨ (97 ≤ A.2.1 (k + k / 10) ∧ A.2.1 (k + k / 10) ≤ 122) := by
        intro k hk
        rcases tf_bb_v (f2 (k + k / 10) (by omega)) (by omega) with h | h
        · exact Or.inl h
        · exact Or.inr ⟨h.1, h.2.1⟩
      refine ⟨(tf_rw (tf_set S o 5 0) (tf_rf G o 1) (tf_bw A.1 A.2.1 b1 30)), tf_Fn_of (own := RX11) false ⟨by decide, rfl, by decide⟩ (Nat.le_of_ble_eq_true rfl) trivial (fun x hx hR => ?_), (tf_ms_rw ho hd (tf_ms_tn ho hM 0) (tf_bw A.1 A.2.1 b1 30)), (tf_fm_tr tf_fm_o tf_fm_1)⟩
      show tf_K x 0 0 G S 0 [some (.ref o), some (.int (nI b1)), none, none, none, none] []
      refine tf_go hx ftX11_board 1 [] 1 [some (.ref o), some (.int (nI b1)), none, none, none, none] [.int (nI b1)] S rfl ⟨by decide, by decide, rfl⟩ trivial ?_
      refine tf_cS hx ftX11_board (nx := 4) (As := [.int (nI b1)]) (rest := []) (st2 := [.int (if ¬ (nI b1) < 0 ∧ ¬ 4 ≤ (nI b1) then 1 else 0)]) (m_isBoard (nI b1)) rfl lX11_40 rfl ⟨rfl, by decide, by decide, by decide, rfl, rfl⟩ ?_
      rw [if_pos c0]
      refine tf_go hx ftX11_board 1 [true] 13 [some (.ref o), some (.int (nI b1)), none, none, none, none] [] S rfl ⟨by decide, by decide, rfl⟩ ⟨trivial, (by decide)⟩ ?_
      refine tf_go hx ftX11_board 1 [] 14 [some (.ref o), some (.int (nI b1)), none, none, none, none] [.ref o] S rfl ⟨by decide, by decide, rfl⟩ trivial ?_
      refine tf_cV hx ftX11_board (nx := 17) (As := []) (rest := []) (st2 := [.int (tf_on 49 (tf_bf A.2.1 A.2.2.1))]) (m_boardFault ho hM.2.1 hA4 hM.2.2.1 hA3) rfl lX11_43 (by first | assumption | rfl | decide) rfl ⟨rfl, by decide, by decide, by decide, rfl, rfl⟩ ?_
      rw [tf_on_n e1]
      refine tf_go hx ftX11_board 4 [] 23 [some (.ref o), some (.int (nI b1)), some (.int (-9)), none, none, none] [] (tf_set S o 5 0) rfl ⟨by decide, by decide, rfl⟩ ⟨trivial, (by first | assumption | rfl | decide | omega)⟩ ?_
      refine tf_go hx ftX11_board 1 [] 24 [some (.ref o), some (.int (nI b1)), some (.int (-9)), none, none, none] [.int (-9)] (tf_set S o 5 0) rfl ⟨by decide, by decide, rfl⟩ trivial ?_
      refine tf_go hx ftX11_board 5 [true] 37 [some (.ref o), some (.int (nI b1)), some (.int (-9)), some (.int 0), some (.int 0), none] [] (tf_set S o 5 0) rfl ⟨by decide, by decide, rfl⟩ ⟨trivial, (by decide)⟩ ?_
      refine tf_fgt [some (.ref o), some (.int (nI b1)), some (.int (-9)), some (.int 0), some (.int 0), none] (by simp [tf_lss]) ?_
      have hid : tf_rw (tf_set S o 5 0) (tf_rf G o 1) A.1 = (tf_set S o 5 0) := tf_rw_id (tf_ms_tn ho hM 0).1
      have loop : ∀ (m k : Nat), k + m = 30 → tf_K x 0 0 G (tf_rw (tf_set S o 5 0) (tf_rf G o 1) (tf_bw A.1 A.2.1 b1 k)) 37 [some (.ref o), some (.int (nI b1)), some (.int (-9)), some (.int (nI (tf_bn A.2.1 k))), some (.int (nI k)), none] [] := by
        intro m
        induction m with
        | zero =>
          intro k hk
          refine tf_go hx ftX11_board 2 [] 41 [some (.ref o), some (.int (nI b1)), some (.int (-9)), some (.int (nI (tf_bn A.2.1 k))), some (.int (nI k)), none] [.int 30, .int (nI k)] (tf_rw (tf_set S o 5 0) (tf_rf G o 1) (tf_bw A.1 A.2.1 b1 k)) rfl ⟨by decide, by decide, rfl⟩ trivial ?_
          refine tf_go hx ftX11_board 2 [true] 111 [some (.ref o), some (.int (nI b1)), some (.int (-9)), some (.int (nI (tf_bn A.2.1 k))), some (.int (nI k)), none] [.int (nI (tf_bn A.2.1 k))] (tf_rw (tf_set S o 5 0) (tf_rf G o 1) (tf_bw A.1 A.2.1 b1 k)) rfl ⟨by decide, by decide, rfl⟩ ⟨trivial, (tf_leT (a := 30) (b := k) (rfl : (30 : Int32) = nI 30) rfl (by omega) (by omega) (by omega))⟩ ?_
          exact tf_ret ftX11_board hR rfl ⟨by decide, by decide⟩ rfl (by rw [show k = 30 by omega]) (by rw [show k = 30 by omega]; rfl)
        | succ m ih =>
          intro k hk
          have rt : ∀ j, (tf_rw (tf_set S o 5 0) (tf_rf G o 1) (tf_bw A.1 A.2.1 b1 k)) (tf_rf G o 4) j = nI (A.2.1 j) := fun j => by rw [tf_rw_n (Ne.symm m14), tf_set_n z4]; exact hM.2.1 j
          have c1 := fv k (by omega)
          refine tf_go hx ftX11_board 2 [] 41 [some (.ref o), some (.int (nI b1)), some (.int (-9)), some (.int (nI (tf_bn A.2.1 k))), some (.int (nI k)), none] [.int 30, .int (nI k)] (tf_rw (tf_set S o 5 0) (tf_rf G o 1) (tf_bw A.1 A.2.1 b1 k)) rfl ⟨by decide, by decide, rfl⟩ trivial ?_
          refine tf_go hx ftX11_board 1 [false] 44 [some (.ref o), some (.int (nI b1)), some (.int (-9)), some (.int (nI (tf_bn A.2.1 k))), some (.int (nI k)), none] [] (tf_rw (tf_set S o 5 0) (tf_rf G o 1) (tf_bw A.1 A.2.1 b1 k)) rfl ⟨by decide, by decide, rfl⟩ ⟨trivial, (tf_leF (a := 30) (b := k) (rfl : (30 : Int32) = nI 30) rfl (by omega) (by omega) (by omega))⟩ ?_
          refine tf_go hx ftX11_board 9 [] 59 [some (.ref o), some (.int (nI b1)), some (.int (-9)), some (.int (nI (tf_bn A.2.1 k))), some (.int (nI k)), some (.int ((tf_rw (tf_set S o 5 0) (tf_rf G o 1) (tf_bw A.1 A.2.1 b1 k)) (tf_rf G o 4) (Int32.toNatClampNeg ((nI k) + ((nI k) / 10)))))] [] (tf_rw (tf_set S o 5 0) (tf_rf G o 1) (tf_bw A.1 A.2.1 b1 k)) rfl ⟨by decide, by decide, rfl⟩ ⟨⟨⟨trivial, ⟨by first | assumption | rfl | decide | omega, by first | assumption | rfl | decide | omega⟩⟩, (by decide)⟩, ⟨Or.inl (by first | assumption | rfl | decide | omega), by first | assumption | exact tf_in (n := (k + (k / 10))) (tf_add (a := k) (b := (k / 10)) rfl (tf_div (a := k) (d := 10) rfl (rfl : (10 : Int32) = nI 10) (by omega) (by omega) (by omega))) (by first | assumption | rfl) (by omega) (by decide)⟩⟩ ?_
          rw [show ((tf_rw (tf_set S o 5 0) (tf_rf G o 1) (tf_bw A.1 A.2.1 b1 k)) (tf_rf G o 4) (Int32.toNatClampNeg ((nI k) + ((nI k) / 10)))) = nI (A.2.1 (k + (k / 10))) from (tf_rd rt (tf_add (a := k) (b := (k / 10)) rfl (tf_div (a := k) (d := 10) rfl (rfl : (10 : Int32) = nI 10) (by omega) (by omega) (by omega))) (by omega))]
          refine tf_go hx ftX11_board 9 [] 74 [some (.ref o), some (.int (nI b1)), some (.int (-9)), some (.int (nI (tf_bn A.2.1 k))), some (.int (nI k)), some (.int (nI (A.2.1 (k + (k / 10)))))] [.int 46, .int (nI (A.2.1 (k + (k / 10)))), .int ((30 * (nI b1)) + (nI k)), .ref (tf_rf G o 1)] (tf_rw (tf_set S o 5 0) (tf_rf G o 1) (tf_bw A.1 A.2.1 b1 k)) rfl ⟨by decide, by decide, rfl⟩ ⟨trivial, ⟨by first | assumption | rfl | decide | omega, by first | assumption | rfl | decide | omega⟩⟩ ?_
          rw [show ((30 * (nI b1)) + (nI k)) = nI ((30 * b1) + k) from (tf_add (a := (30 * b1)) (b := k) (tf_mul (a := 30) (b := b1) (rfl : (30 : Int32) = nI 30) rfl) rfl)]
          by_cases c2 : A.2.1 (k + k / 10) = 46
          · refine tf_go hx ftX11_board 3 [false] 88 [some (.ref o), some (.int (nI b1)), some (.int (-9)), some (.int (nI (tf_bn A.2.1 k))), some (.int (nI k)), some (.int (nI (A.2.1 (k + (k / 10)))))] [.int 0, .int (nI ((30 * b1) + k)), .ref (tf_rf G o 1)] (tf_rw (tf_set S o 5 0) (tf_rf G o 1) (tf_bw A.1 A.2.1 b1 k)) rfl ⟨by decide, by decide, rfl⟩ ⟨trivial, (tf_neF (a := (A.2.1 (k + (k / 10)))) (b := 46) rfl (rfl : (46 : Int32) = nI 46) (by have := hA4 (k + (k / 10)); omega))⟩ ?_
            show tf_K x 0 0 G (tf_rw (tf_set S o 5 0) (tf_rf G o 1) (tf_bw A.1 A.2.1 b1 k)) 88 [some (.ref o), some (.int (nI b1)), some (.int (-9)), some (.int (nI (tf_bn A.2.1 k))), some (.int (nI k)), some (.int (nI (A.2.1 (k + (k / 10)))))] [.int (nI 0), .int (nI ((30 * b1) + k)), .ref (tf_rf G o 1)]
            refine tf_go hx ftX11_board 1 [] 89 [some (.ref o), some (.int (nI b1)), some (.int (-9)), some (.int (nI (tf_bn A.2.1 k))), some (.int (nI k)), some (.int (nI (A.2.1 (k + (k / 10)))))] [] (tf_set (tf_rw (tf_set S o 5 0) (tf_rf G o 1) (tf_bw A.1 A.2.1 b1 k)) (tf_rf G o 1) (Int32.toNatClampNeg (nI ((30 * b1) + k))) (nI 0)) rfl ⟨by decide, by decide, rfl⟩ ⟨trivial, ⟨by first | assumption | rfl | decide | omega, by first | assumption | exact tf_in (n := ((30 * b1) + k)) rfl (by first | assumption | rfl) (by omega) (by decide)⟩⟩ ?_
            rw [show Int32.toNatClampNeg (nI ((30 * b1) + k)) = ((30 * b1) + k) from tf_cln rfl (by omega)]
            rw [tf_rw_u2]
            have bv : tf_bv (A.2.1 (k + k / 10)) = 0 := by unfold tf_bv; rw [if_pos c2]
            have bu := @tf_bw_s A.1 A.2.1 b1 k
            rw [bv] at bu
            rw [bu]
            refine tf_go hx ftX11_board 3 [] 94 [some (.ref o), some (.int (nI b1)), some (.int (-9)), some (.int (nI (tf_bn A.2.1 k))), some (.int (nI k)), some (.int (nI (A.2.1 (k + (k / 10)))))] [.int 46, .int (nI (A.2.1 (k + (k / 10)))), .int (nI (tf_bn A.2.1 k))] (tf_rw (tf_set S o 5 0) (tf_rf G o 1) (tf_bw A.1 A.2.1 b1 (k + 1))) rfl ⟨by decide, by decide, rfl⟩ trivial ?_
            refine tf_go hx ftX11_board 7 [false] 37 [some (.ref o), some (.int (nI b1)), some (.int (-9)), some (.int ((nI (tf_bn A.2.1 k)) + 0)), some (.int ((nI k) + 1)), some (.int (nI (A.2.1 (k + (k / 10)))))] [] (tf_rw (tf_set S o 5 0) (tf_rf G o 1) (tf_bw A.1 A.2.1 b1 (k + 1))) rfl ⟨by decide, by decide, rfl⟩ ⟨trivial, (tf_neF (a := (A.2.1 (k + (k / 10)))) (b := 46) rfl (rfl : (46 : Int32) = nI 46) (by have := hA4 (k + (k / 10)); omega))⟩ ?_
            rw [show ((nI (tf_bn A.2.1 k)) + 0) = nI ((tf_bn A.2.1 k) + 0) from (tf_add (a := (tf_bn A.2.1 k)) (b := 0) rfl (rfl : (0 : Int32) = nI 0))]
            rw [show ((nI k) + 1) = nI (k + 1) from (tf_add (a := k) (b := 1) rfl (rfl : (1 : Int32) = nI 1))]
            have bn : tf_bn A.2.1 (k + 1) = tf_bn A.2.1 k + 0 := by rw [tf_bn_s, if_pos c2]
            refine tf_fgt [some (.ref o), some (.int (nI b1)), some (.int (-9)), some (.int (nI (tf_bn A.2.1 k + 0))), some (.int (nI (k + 1))), none] (by simp [tf_lss]) ?_
            rw [← bn]
            exact ih (k + 1) (by omega)
          · refine tf_go hx ftX11_board 6 [true] 88 [some (.ref o), some (.int (nI b1)), some (.int (-9)), some (.int (nI (tf_bn A.2.1 k))), some (.int (nI k)), some (.int (nI (A.2.1 (k + (k / 10)))))] [.int (((nI (A.2.1 (k + (k / 10)))) - 97) + 1), .int (nI ((30 * b1) + k)), .ref (tf_rf G o 1)] (tf_rw (tf_set S o 5 0) (tf_rf G o 1) (tf_bw A.1 A.2.1 b1 k)) rfl ⟨by decide, by decide, rfl⟩ ⟨trivial, (tf_eqF (a := (A.2.1 (k + (k / 10)))) (b := 46) rfl (rfl : (46 : Int32) = nI 46) (by have := hA4 (k + (k / 10)); omega) (by have := hA4 (k + (k / 10)); omega) (by have := hA4 (k + (k / 10)); omega))⟩ ?_
            rw [show (((nI (A.2.1 (k + (k / 10)))) - 97) + 1) = nI (((A.2.1 (k + (k / 10))) - 97) + 1) from (tf_add (a := ((A.2.1 (k + (k / 10))) - 97)) (b := 1) (tf_sub (a := (A.2.1 (k + (k / 10)))) (b := 97) rfl (rfl : (97 : Int32) = nI 97) (by have := hA4 (k + (k / 10)); omega)) (rfl : (1 : Int32) = nI 1))]
            refine tf_go hx ftX11_board 1 [] 89 [some (.ref o), some (.int (nI b1)), some (.int (-9)), some (.int (nI (tf_bn A.2.1 k))), some (.int (nI k)), some (.int (nI (A.2.1 (k + (k / 10)))))] [] (tf_set (tf_rw (tf_set S o 5 0) (tf_rf G o 1) (tf_bw A.1 A.2.1 b1 k)) (tf_rf G o 1) (Int32.toNatClampNeg (nI ((30 * b1) + k))) (nI (((A.2.1 (k + (k / 10))) - 97) + 1))) rfl ⟨by decide, by decide, rfl⟩ ⟨trivial, ⟨by first | assumption | rfl | decide | omega, by first | assumption | exact tf_in (n := ((30 * b1) + k)) rfl (by first | assumption | rfl) (by omega) (by decide)⟩⟩ ?_
            rw [show Int32.toNatClampNeg (nI ((30 * b1) + k)) = ((30 * b1) + k) from tf_cln rfl (by omega)]
            rw [tf_rw_u2]
            have bv : tf_bv (A.2.1 (k + k / 10)) = A.2.1 (k + k / 10) - 97 + 1 := by unfold tf_bv; rw [if_neg c2]
            have bu := @tf_bw_s A.1 A.2.1 b1 k
            rw [bv] at bu
            rw [bu]
            refine tf_go hx ftX11_board 3 [] 94 [some (.ref o), some (.int (nI b1)), some (.int (-9)), some (.int (nI (tf_bn A.2.1 k))), some (.int (nI k)), some (.int (nI (A.2.1 (k + (k / 10)))))] [.int 46, .int (nI (A.2.1 (k + (k / 10)))), .int (nI (tf_bn A.2.1 k))] (tf_rw (tf_set S o 5 0) (tf_rf G o 1) (tf_bw A.1 A.2.1 b1 (k + 1))) rfl ⟨by decide, by decide, rfl⟩ trivial ?_
            refine tf_go hx ftX11_board 6 [true] 37 [some (.ref o), some (.int (nI b1)), some (.int (-9)), some (.int ((nI (tf_bn A.2.1 k)) + 1)), some (.int ((nI k) + 1)), some (.int (nI (A.2.1 (k + (k / 10)))))] [] (tf_rw (tf_set S o 5 0) (tf_rf G o 1) (tf_bw A.1 A.2.1 b1 (k + 1))) rfl ⟨by decide, by decide, rfl⟩ ⟨trivial, (tf_eqF (a := (A.2.1 (k + (k / 10)))) (b := 46) rfl (rfl : (46 : Int32) = nI 46) (by have := hA4 (k + (k / 10)); omega) (by have := hA4 (k + (k / 10)); omega) (by have := hA4 (k + (k / 10)); omega))⟩ ?_
            rw [show ((nI (tf_bn A.2.1 k)) + 1) = nI ((tf_bn A.2.1 k) + 1) from (tf_add (a := (tf_bn A.2.1 k)) (b := 1) rfl (rfl : (1 : Int32) = nI 1))]
            rw [show ((nI k) + 1) = nI (k + 1) from (tf_add (a := k) (b := 1) rfl (rfl : (1 : Int32) = nI 1))]
            have bn : tf_bn A.2.1 (k + 1) = tf_bn A.2.1 k + 1 := by rw [tf_bn_s, if_neg c2]
            refine tf_fgt [some (.ref o), some (.int (nI b1)), some (.int (-9)), some (.int (nI (tf_bn A.2.1 k + 1))), some (.int (nI (k + 1))), none] (by simp [tf_lss]) ?_
            rw [← bn]
            exact ih (k + 1) (by omega)
      have h0 := loop 30 0 rfl
      rw [tf_bw_0, hid] at h0
      exact h0
  · rw [if_neg (fun h => c0 h)]
    refine ⟨tf_rfS G S o 1, tf_Fn_of (own := RX11) false ⟨by decide, rfl, by decide⟩ (Nat.le_of_ble_eq_true rfl) trivial (fun x hx hR => ?_), tf_ms_ref ho hd hM 1, tf_fm_0⟩
    show tf_K x 0 0 G S 0 [some (.ref o), some (.int b), none, none, none, none] []
    refine tf_go hx ftX11_board 1 [] 1 [some (.ref o), some (.int b), none, none, none, none] [.int b] S rfl ⟨by decide, by decide, rfl⟩ trivial ?_
    refine tf_cS hx ftX11_board (nx := 4) (As := [.int b]) (rest := []) (st2 := [.int (if ¬ b < 0 ∧ ¬ 4 ≤ b then 1 else 0)]) (m_isBoard b) rfl lX11_40 rfl ⟨rfl, by decide, by decide, by decide, rfl, rfl⟩ ?_
    rw [if_neg c0]
    refine tf_go hx ftX11_board 1 [false] 7 [some (.ref o), some (.int b), none, none, none, none] [] S rfl ⟨by decide, by decide, rfl⟩ ⟨trivial, (by decide)⟩ ?_
    refine tf_go hx ftX11_board 2 [] 9 [some (.ref o), some (.int b), none, none, none, none] [.int (-1), .ref o] S rfl ⟨by decide, by decide, rfl⟩ trivial ?_
    refine tf_cV hx ftX11_board (nx := 12) (As := [.int (-1)]) (rest := []) (st2 := [.int (-1)]) (m_ref1 ho) rfl lX11_26 (by first | assumption | rfl | decide) rfl ⟨rfl, by decide, by decide, by decide, rfl, rfl⟩ ?_
    exact tf_ret ftX11_board hR rfl ⟨by decide, by decide⟩ rfl rfl rfl

set_option maxHeartbeats 2000000 in
theorem p_text {G : tf_G} {S : tf_Sg} {o : Nat} {A : tf_A} (t : Nat) (ht : t < 2) (ho : tf_mo G o) (hd : tf_md G o) (hA : tf_okA A) (hM : tf_ms G S o A)  : tf_pm mX11_text 3 G S o [.ref o, .int (nI t)] (s_text A t) := by
  obtain ⟨h1, ⟨r0, t0, n0⟩, ⟨r1, t1, n1⟩, ⟨r2, t2, n2⟩, ⟨r4, t4, n4⟩⟩ := id ho
  obtain ⟨hg, hb, hA3, hA4, hA5, hA6⟩ := id hA
  have hs := hM.1
  have hf : tf_sf G S o A.1 := ⟨hM.1, hb⟩
  obtain ⟨⟨g1, g2, g3, g4⟩, g5, g6, g7, g8, g9, g10, g11⟩ := id hg
  obtain ⟨z0, z1, z2, z4⟩ := tf_mo_ne ho
  obtain ⟨m01, m02, m04, m12, m14, m24⟩ := id hd
  unfold s_text
  by_cases e9 : t = 0
  · subst e9
    have e0 : ¬ ((0 : Nat) ≠ 0) := by decide
    rw [if_neg e0, if_neg e0, if_neg e0]
    by_cases e1 : 40 < A.2.2.1
    · rw [if_pos e1]
      refine ⟨tf_rfS G S o 6, tf_Fn_of (own := RX11) false ⟨by decide, rfl, by decide⟩ (Nat.le_of_ble_eq_true rfl) trivial (fun x hx hR => ?_), tf_ms_ref ho hd hM 6, tf_fm_0⟩
      show tf_K x 0 0 G S 0 [some (.ref o), some (.int (nI 0)), none, none, none] []
      refine tf_go hx ftX11_text 3 [] 6 [some (.ref o), some (.int (nI 0)), none, none, none] [.int 40, .int (S o 5)] S rfl ⟨by decide, by decide, rfl⟩ ⟨trivial, (by first | assumption | rfl | decide | omega)⟩ ?_
      rw [show (S o 5) = nI A.2.2.1 from hM.2.2.1]
      refine tf_go hx ftX11_text 3 [false] 12 [some (.ref o), some (.int (nI 0)), none, none, none] [.int (-6), .ref o] S rfl ⟨by decide, by decide, rfl⟩ ⟨trivial, (tf_leF (a := A.2.2.1) (b := 40) rfl (rfl : (40 : Int32) = nI 40) (by omega) (by omega) (by omega))⟩ ?_
      refine tf_cV hx ftX11_text (nx := 15) (As := [.int (-6)]) (rest := []) (st2 := [.int (-6)]) (m_ref6 ho) rfl lX11_26 (by first | assumption | rfl | decide) rfl ⟨rfl, by decide, by decide, by decide, rfl, rfl⟩ ?_
      exact tf_ret ftX11_text hR rfl ⟨by decide, by decide⟩ rfl rfl rfl
    · rw [if_neg e1]
      have fl := tf_lf_le A.2.1 A.2.2.1 1
      by_cases e2 : tf_lf A.2.1 A.2.2.1 1 < A.2.2.1
      · rw [if_pos e2]
        refine ⟨(tf_set S o 5 0), tf_Fn_of (own := RX11) false ⟨by decide, rfl, by decide⟩ (Nat.le_of_ble_eq_true rfl) trivial (fun x hx hR => ?_), (tf_ms_tn ho hM 0), tf_fm_o⟩
        show tf_K x 0 0 G S 0 [some (.ref o), some (.int (nI 0)), none, none, none] []
        refine tf_go hx ftX11_text 3 [] 6 [some (.ref o), some (.int (nI 0)), none, none, none] [.int 40, .int (S o 5)] S rfl ⟨by decide, by decide, rfl⟩ ⟨trivial, (by first | assumption | rfl | decide | omega)⟩ ?_
        rw [show (S o 5) = nI A.2.2.1 from hM.2.2.1]
        refine tf_go hx ftX11_text 1 [true] 16 [some (.ref o), some (.int (nI 0)), none, none, none] [] S rfl ⟨by decide, by decide, rfl⟩ ⟨trivial, (tf_leT (a := A.2.2.1) (b := 40) rfl (rfl : (40 : Int32) = nI 40) (by omega) (by omega) (by omega))⟩ ?_
        refine tf_go hx ftX11_text 2 [] 18 [some (.ref o), some (.int (nI 0)), none, none, none] [.int (nI 0), .ref o] S rfl ⟨by decide, by decide, rfl⟩ trivial ?_
        refine tf_go hx ftX11_text 3 [false] 26 [some (.ref o), some (.int (nI 0)), none, none, none] [.int 1, .ref o] S rfl ⟨by decide, by decide, rfl⟩ ⟨trivial, (tf_neF (a := 0) (b := 0) rfl (rfl : (0 : Int32) = nI 0) (by omega))⟩ ?_
        refine tf_cV hx ftX11_text (nx := 29) (As := [.int 1]) (rest := []) (st2 := [.int (tf_on A.2.2.1 (tf_lf A.2.1 A.2.2.1 1))]) (m_lettersFault (bk := 1) ho hM.2.1 hA4 hM.2.2.1 hA3 (by decide)) rfl lX11_47 (by first | assumption | rfl | decide) rfl ⟨rfl, by decide, by decide, by decide, rfl, rfl⟩ ?_
        rw [tf_on_y e2]
        refine tf_go hx ftX11_text 6 [] 37 [some (.ref o), some (.int (nI 0)), some (.int (nI (tf_lf A.2.1 A.2.2.1 1))), some (.int (S o 5)), none] [.int 0, .ref o] S rfl ⟨by decide, by decide, rfl⟩ ⟨trivial, (by first | assumption | rfl | decide | omega)⟩ ?_
        rw [show (S o 5) = nI A.2.2.1 from hM.2.2.1]
        refine tf_go hx ftX11_text 1 [] 40 [some (.ref o), some (.int (nI 0)), some (.int (nI (tf_lf A.2.1 A.2.2.1 1))), some (.int (nI A.2.2.1)), none] [] (tf_set S o 5 0) rfl ⟨by decide, by decide, rfl⟩ ⟨trivial, (by first | assumption | rfl | decide | omega)⟩ ?_
        refine tf_go hx ftX11_text 5 [false] 48 [some (.ref o), some (.int (nI 0)), some (.int (nI (tf_lf A.2.1 A.2.2.1 1))), some (.int (nI A.2.2.1)), none] [.int ((-20) - (nI (tf_lf A.2.1 A.2.2.1 1)))] (tf_set S o 5 0) rfl ⟨by decide, by decide, rfl⟩ ⟨trivial, (tf_ltF (a := (tf_lf A.2.1 A.2.2.1 1)) (b := 0) rfl (rfl : (0 : Int32) = nI 0) (by have := hA4 A.2.2.1; omega) (by have := hA4 A.2.2.1; omega) (by have := hA4 A.2.2.1; omega))⟩ ?_
        exact tf_ret ftX11_text hR rfl ⟨by decide, by decide⟩ rfl rfl rfl
      · rw [if_neg e2]
        have fv := tf_lf_no e2
        refine ⟨(tf_rw (tf_set S o 5 0) (tf_rf G o 1) (tf_u (tf_tw A.1 A.2.1 184 A.2.2.1) 365 A.2.2.1)), tf_Fn_of (own := RX11) false ⟨by decide, rfl, by decide⟩ (Nat.le_of_ble_eq_true rfl) trivial (fun x hx hR => ?_), (tf_ms_rw ho hd (tf_ms_tn ho hM 0) (tf_u (tf_tw A.1 A.2.1 184 A.2.2.1) 365 A.2.2.1)), (tf_fm_tr tf_fm_o tf_fm_1)⟩
        show tf_K x 0 0 G S 0 [some (.ref o), some (.int (nI 0)), none, none, none] []
        refine tf_go hx ftX11_text 3 [] 6 [some (.ref o), some (.int (nI 0)), none, none, none] [.int 40, .int (S o 5)] S rfl ⟨by decide, by decide, rfl⟩ ⟨trivial, (by first | assumption | rfl | decide | omega)⟩ ?_
        rw [show (S o 5) = nI A.2.2.1 from hM.2.2.1]
        refine tf_go hx ftX11_text 1 [true] 16 [some (.ref o), some (.int (nI 0)), none, none, none] [] S rfl ⟨by decide, by decide, rfl⟩ ⟨trivial, (tf_leT (a := A.2.2.1) (b := 40) rfl (rfl : (40 : Int32) = nI 40) (by omega) (by omega) (by omega))⟩ ?_
        refine tf_go hx ftX11_text 2 [] 18 [some (.ref o), some (.int (nI 0)), none, none, none] [.int (nI 0), .ref o] S rfl ⟨by decide, by decide, rfl⟩ trivial ?_
        refine tf_go hx ftX11_text 3 [false] 26 [some (.ref o), some (.int (nI 0)), none, none, none] [.int 1, .ref o] S rfl ⟨by decide, by decide, rfl⟩ ⟨trivial, (tf_neF (a := 0) (b := 0) rfl (rfl : (0 : Int32) = nI 0) (by omega))⟩ ?_
        refine tf_cV hx ftX11_text (nx := 29) (As := [.int 1]) (rest := []) (st2 := [.int (tf_on A.2.2.1 (tf_lf A.2.1 A.2.2.1 1))]) (m_lettersFault (bk := 1) ho hM.2.1 hA4 hM.2.2.1 hA3 (by decide)) rfl lX11_47 (by first | assumption | rfl | decide) rfl ⟨rfl, by decide, by decide, by decide, rfl, rfl⟩ ?_
        rw [tf_on_n e2]
        refine tf_go hx ftX11_text 6 [] 37 [some (.ref o), some (.int (nI 0)), some (.int (-9)), some (.int (S o 5)), none] [.int 0, .ref o] S rfl ⟨by decide, by decide, rfl⟩ ⟨trivial, (by first | assumption | rfl | decide | omega)⟩ ?_
        rw [show (S o 5) = nI A.2.2.1 from hM.2.2.1]
        refine tf_go hx ftX11_text 1 [] 40 [some (.ref o), some (.int (nI 0)), some (.int (-9)), some (.int (nI A.2.2.1)), none] [] (tf_set S o 5 0) rfl ⟨by decide, by decide, rfl⟩ ⟨trivial, (by first | assumption | rfl | decide | omega)⟩ ?_
        refine tf_go hx ftX11_text 4 [true] 52 [some (.ref o), some (.int (nI 0)), some (.int (-9)), some (.int (nI A.2.2.1)), some (.int 0)] [] (tf_set S o 5 0) rfl ⟨by decide, by decide, rfl⟩ ⟨trivial, (by decide)⟩ ?_
        have hid : tf_rw (tf_set S o 5 0) (tf_rf G o 1) A.1 = (tf_set S o 5 0) := tf_rw_id (tf_ms_tn ho hM 0).1
        have loop : ∀ (m k : Nat), k + m = A.2.2.1 → tf_K x 0 0 G (tf_rw (tf_set S o 5 0) (tf_rf G o 1) (tf_tw A.1 A.2.1 184 k)) 52 [some (.ref o), some (.int (nI 0)), some (.int (-9)), some (.int (nI A.2.2.1)), some (.int (nI k))] [] := by
          intro m
          induction m with
          | zero =>
            intro k hk
            have rt : ∀ j, (tf_rw (tf_set S o 5 0) (tf_rf G o 1) (tf_tw A.1 A.2.1 184 k)) (tf_rf G o 4) j = nI (A.2.1 j) := fun j => by rw [tf_rw_n (Ne.symm m14), tf_set_n z4]; exact hM.2.1 j
            have ek : k = A.2.2.1 := by omega
            refine tf_go hx ftX11_text 2 [] 55 [some (.ref o), some (.int (nI 0)), some (.int (-9)), some (.int (nI A.2.2.1)), some (.int (nI k))] [.int (nI A.2.2.1), .int (nI k)] (tf_rw (tf_set S o 5 0) (tf_rf G o 1) (tf_tw A.1 A.2.1 184 k)) rfl ⟨by decide, by decide, rfl⟩ trivial ?_
            refine tf_go hx ftX11_text 1 [true] 112 [some (.ref o), some (.int (nI 0)), some (.int (-9)), some (.int (nI A.2.2.1)), some (.int (nI k))] [] (tf_rw (tf_set S o 5 0) (tf_rf G o 1) (tf_tw A.1 A.2.1 184 k)) rfl ⟨by decide, by decide, rfl⟩ ⟨trivial, (tf_leT (a := A.2.2.1) (b := k) rfl rfl (by omega) (by omega) (by omega))⟩ ?_
            refine tf_go hx ftX11_text 3 [] 117 [some (.ref o), some (.int (nI 0)), some (.int (-9)), some (.int (nI A.2.2.1)), some (.int (nI k))] [.int (nI 0), .ref (tf_rf G o 1)] (tf_rw (tf_set S o 5 0) (tf_rf G o 1) (tf_tw A.1 A.2.1 184 k)) rfl ⟨by decide, by decide, rfl⟩ ⟨trivial, ⟨by first | assumption | rfl | decide | omega, by first | assumption | rfl | decide | omega⟩⟩ ?_
            refine tf_go hx ftX11_text 3 [true] 130 [some (.ref o), some (.int (nI 0)), some (.int (-9)), some (.int (nI A.2.2.1)), some (.int (nI k))] [.int (nI A.2.2.1), .int 365, .ref (tf_rf G o 1)] (tf_rw (tf_set S o 5 0) (tf_rf G o 1) (tf_tw A.1 A.2.1 184 k)) rfl ⟨by decide, by decide, rfl⟩ ⟨trivial, (tf_eqT (a := 0) (b := 0) rfl (rfl : (0 : Int32) = nI 0) (by omega))⟩ ?_
            refine tf_go hx ftX11_text 1 [] 131 [some (.ref o), some (.int (nI 0)), some (.int (-9)), some (.int (nI A.2.2.1)), some (.int (nI k))] [] (tf_set (tf_rw (tf_set S o 5 0) (tf_rf G o 1) (tf_tw A.1 A.2.1 184 k)) (tf_rf G o 1) (Int32.toNatClampNeg 365) (nI A.2.2.1)) rfl ⟨by decide, by decide, rfl⟩ ⟨trivial, ⟨by first | assumption | rfl | decide | omega, by first | assumption | exact tf_in (n := 365) (rfl : (365 : Int32) = nI 365) (by first | assumption | rfl) (by omega) (by decide)⟩⟩ ?_
            rw [show Int32.toNatClampNeg (365 : Int32) = 365 from rfl]
            rw [tf_rw_u2]
            rw [ek]
            refine tf_go hx ftX11_text 1 [] 132 [some (.ref o), some (.int (nI 0)), some (.int (-9)), some (.int (nI A.2.2.1)), some (.int (nI A.2.2.1))] [.int (nI A.2.2.1)] (tf_rw (tf_set S o 5 0) (tf_rf G o 1) (tf_u (tf_tw A.1 A.2.1 184 A.2.2.1) 365 A.2.2.1)) rfl ⟨by decide, by decide, rfl⟩ trivial ?_
            exact tf_ret ftX11_text hR rfl ⟨by decide, by decide⟩ rfl rfl rfl
          | succ m ih =>
            intro k hk
            have rt : ∀ j, (tf_rw (tf_set S o 5 0) (tf_rf G o 1) (tf_tw A.1 A.2.1 184 k)) (tf_rf G o 4) j = nI (A.2.1 j) := fun j => by rw [tf_rw_n (Ne.symm m14), tf_set_n z4]; exact hM.2.1 j
            have c1 := fv k (by omega)
            refine tf_go hx ftX11_text 2 [] 55 [some (.ref o), some (.int (nI 0)), some (.int (-9)), some (.int (nI A.2.2.1)), some (.int (nI k))] [.int (nI A.2.2.1), .int (nI k)] (tf_rw (tf_set S o 5 0) (tf_rf G o 1) (tf_tw A.1 A.2.1 184 k)) rfl ⟨by decide, by decide, rfl⟩ trivial ?_
            refine tf_go hx ftX11_text 1 [false] 58 [some (.ref o), some (.int (nI 0)), some (.int (-9)), some (.int (nI A.2.2.1)), some (.int (nI k))] [] (tf_rw (tf_set S o 5 0) (tf_rf G o 1) (tf_tw A.1 A.2.1 184 k)) rfl ⟨by decide, by decide, rfl⟩ ⟨trivial, (tf_leF (a := A.2.2.1) (b := k) rfl rfl (by omega) (by omega) (by omega))⟩ ?_
            refine tf_go hx ftX11_text 3 [] 63 [some (.ref o), some (.int (nI 0)), some (.int (-9)), some (.int (nI A.2.2.1)), some (.int (nI k))] [.int (nI 0), .ref (tf_rf G o 1)] (tf_rw (tf_set S o 5 0) (tf_rf G o 1) (tf_tw A.1 A.2.1 184 k)) rfl ⟨by decide, by decide, rfl⟩ ⟨trivial, ⟨by first | assumption | rfl | decide | omega, by first | assumption | rfl | decide | omega⟩⟩ ?_
            refine tf_go hx ftX11_text 2 [true] 75 [some (.ref o), some (.int (nI 0)), some (.int (-9)), some (.int (nI A.2.2.1)), some (.int (nI k))] [.int 184, .ref (tf_rf G o 1)] (tf_rw (tf_set S o 5 0) (tf_rf G o 1) (tf_tw A.1 A.2.1 184 k)) rfl ⟨by decide, by decide, rfl⟩ ⟨trivial, (tf_eqT (a := 0) (b := 0) rfl (rfl : (0 : Int32) = nI 0) (by omega))⟩ ?_
            refine tf_go hx ftX11_text 7 [] 87 [some (.ref o), some (.int (nI 0)), some (.int (-9)), some (.int (nI A.2.2.1)), some (.int (nI k))] [.int 60, .int ((tf_rw (tf_set S o 5 0) (tf_rf G o 1) (tf_tw A.1 A.2.1 184 k)) (tf_rf G o 4) (Int32.toNatClampNeg (nI k))), .int (184 + (nI k)), .ref (tf_rf G o 1)] (tf_rw (tf_set S o 5 0) (tf_rf G o 1) (tf_tw A.1 A.2.1 184 k)) rfl ⟨by decide, by decide, rfl⟩ ⟨⟨trivial, ⟨by first | assumption | rfl | decide | omega, by first | assumption | rfl | decide | omega⟩⟩, ⟨Or.inl (by first | assumption | rfl | decide | omega), by first | assumption | exact tf_in (n := k) rfl (by first | assumption | rfl) (by omega) (by decide)⟩⟩ ?_
            rw [show ((tf_rw (tf_set S o 5 0) (tf_rf G o 1) (tf_tw A.1 A.2.1 184 k)) (tf_rf G o 4) (Int32.toNatClampNeg (nI k))) = nI (A.2.1 k) from (tf_rd rt rfl (by omega))]
            rw [show (184 + (nI k)) = nI (184 + k) from (tf_add (a := 184) (b := k) (rfl : (184 : Int32) = nI 184) rfl)]
            by_cases c2 : A.2.1 k = 60
            · refine tf_go hx ftX11_text 3 [false] 105 [some (.ref o), some (.int (nI 0)), some (.int (-9)), some (.int (nI A.2.2.1)), some (.int (nI k))] [.int 26, .int (nI (184 + k)), .ref (tf_rf G o 1)] (tf_rw (tf_set S o 5 0) (tf_rf G o 1) (tf_tw A.1 A.2.1 184 k)) rfl ⟨by decide, by decide, rfl⟩ ⟨trivial, (tf_neF (a := (A.2.1 k)) (b := 60) rfl (rfl : (60 : Int32) = nI 60) (by have := hA4 k; omega))⟩ ?_
              show tf_K x 0 0 G (tf_rw (tf_set S o 5 0) (tf_rf G o 1) (tf_tw A.1 A.2.1 184 k)) 105 [some (.ref o), some (.int (nI 0)), some (.int (-9)), some (.int (nI A.2.2.1)), some (.int (nI k))] [.int (nI 26), .int (nI (184 + k)), .ref (tf_rf G o 1)]
              have bv : tf_tv2 (A.2.1 k) = 26 := by unfold tf_tv2; rw [if_pos c2]
              refine tf_go hx ftX11_text 1 [] 106 [some (.ref o), some (.int (nI 0)), some (.int (-9)), some (.int (nI A.2.2.1)), some (.int (nI k))] [] (tf_set (tf_rw (tf_set S o 5 0) (tf_rf G o 1) (tf_tw A.1 A.2.1 184 k)) (tf_rf G o 1) (Int32.toNatClampNeg (nI (184 + k))) (nI 26)) rfl ⟨by decide, by decide, rfl⟩ ⟨trivial, ⟨by first | assumption | rfl | decide | omega, by first | assumption | exact tf_in (n := (184 + k)) rfl (by first | assumption | rfl) (by omega) (by decide)⟩⟩ ?_
              rw [show Int32.toNatClampNeg (nI (184 + k)) = (184 + k) from tf_cln rfl (by omega)]
              rw [tf_rw_u2]
              have bu := @tf_tw_s A.1 A.2.1 184 k
              rw [bv] at bu
              rw [bu]
              refine tf_go hx ftX11_text 2 [] 52 [some (.ref o), some (.int (nI 0)), some (.int (-9)), some (.int (nI A.2.2.1)), some (.int ((nI k) + 1))] [] (tf_rw (tf_set S o 5 0) (tf_rf G o 1) (tf_tw A.1 A.2.1 184 (k + 1))) rfl ⟨by decide, by decide, rfl⟩ trivial ?_
              rw [show ((nI k) + 1) = nI (k + 1) from (tf_add (a := k) (b := 1) rfl (rfl : (1 : Int32) = nI 1))]
              exact ih (k + 1) (by omega)
            · have c3 : 97 ≤ A.2.1 k := by rcases c1 with h | h; exact h.1; exact absurd h.2 c2
              refine tf_go hx ftX11_text 7 [true] 105 [some (.ref o), some (.int (nI 0)), some (.int (-9)), some (.int (nI A.2.2.1)), some (.int (nI k))] [.int (((tf_rw (tf_set S o 5 0) (tf_rf G o 1) (tf_tw A.1 A.2.1 184 k)) (tf_rf G o 4) (Int32.toNatClampNeg (nI k))) - 97), .int (nI (184 + k)), .ref (tf_rf G o 1)] (tf_rw (tf_set S o 5 0) (tf_rf G o 1) (tf_tw A.1 A.2.1 184 k)) rfl ⟨by decide, by decide, rfl⟩ ⟨⟨⟨trivial, (tf_eqF (a := (A.2.1 k)) (b := 60) rfl (rfl : (60 : Int32) = nI 60) (by have := hA4 k; omega) (by have := hA4 k; omega) (by have := hA4 k; omega))⟩, ⟨by first | assumption | rfl | decide | omega, by first | assumption | rfl | decide | omega⟩⟩, ⟨Or.inl (by first | assumption | rfl | decide | omega), by first | assumption | exact tf_in (n := k) rfl (by first | assumption | rfl) (by omega) (by decide)⟩⟩ ?_
              rw [show (((tf_rw (tf_set S o 5 0) (tf_rf G o 1) (tf_tw A.1 A.2.1 184 k)) (tf_rf G o 4) (Int32.toNatClampNeg (nI k))) - 97) = nI ((A.2.1 k) - 97) from (tf_sub (a := (A.2.1 k)) (b := 97) (tf_rd rt rfl (by omega)) (rfl : (97 : Int32) = nI 97) (by have := hA4 k; omega))]
              have bv : tf_tv2 (A.2.1 k) = A.2.1 k - 97 := by unfold tf_tv2; rw [if_neg c2]
              refine tf_go hx ftX11_text 1 [] 106 [some (.ref o), some (.int (nI 0)), some (.int (-9)), some (.int (nI A.2.2.1)), some (.int (nI k))] [] (tf_set (tf_rw (tf_set S o 5 0) (tf_rf G o 1) (tf_tw A.1 A.2.1 184 k)) (tf_rf G o 1) (Int32.toNatClampNeg (nI (184 + k))) (nI ((A.2.1 k) - 97))) rfl ⟨by decide, by decide, rfl⟩ ⟨trivial, ⟨by first | assumption | rfl | decide | omega, by first | assumption | exact tf_in (n := (184 + k)) rfl (by first | assumption | rfl) (by omega) (by decide)⟩⟩ ?_
              rw [show Int32.toNatClampNeg (nI (184 + k)) = (184 + k) from tf_cln rfl (by omega)]
              rw [tf_rw_u2]
              have bu := @tf_tw_s A.1 A.2.1 184 k
              rw [bv] at bu
              rw [bu]
              refine tf_go hx ftX11_text 2 [] 52 [some (.ref o), some (.int (nI 0)), some (.int (-9)), some (.int (nI A.2.2.1)), some (.int ((nI k) + 1))] [] (tf_rw (tf_set S o 5 0) (tf_rf G o 1) (tf_tw A.1 A.2.1 184 (k + 1))) rfl ⟨by decide, by decide, rfl⟩ trivial ?_
              rw [show ((nI k) + 1) = nI (k + 1) from (tf_add (a := k) (b := 1) rfl (rfl : (1 : Int32) = nI 1))]
              exact ih (k + 1) (by omega)
        have h0 := loop A.2.2.1 0 (by omega)
        rw [tf_tw_0, hid] at h0
        exact h0
  · obtain rfl : t = 1 := by omega
    have e0 : (1 : Nat) ≠ 0 := by decide
    rw [if_pos e0, if_pos e0, if_pos e0]
    by_cases e1 : 40 < A.2.2.1
    · rw [if_pos e1]
      refine ⟨tf_rfS G S o 6, tf_Fn_of (own := RX11) false ⟨by decide, rfl, by decide⟩ (Nat.le_of_ble_eq_true rfl) trivial (fun x hx hR => ?_), tf_ms_ref ho hd hM 6, tf_fm_0⟩
      show tf_K x 0 0 G S 0 [some (.ref o), some (.int (nI 1)), none, none, none] []
      refine tf_go hx ftX11_text 3 [] 6 [some (.ref o), some (.int (nI 1)), none, none, none] [.int 40, .int (S o 5)] S rfl ⟨by decide, by decide, rfl⟩ ⟨trivial, (by first | assumption | rfl | decide | omega)⟩ ?_
      rw [show (S o 5) = nI A.2.2.1 from hM.2.2.1]
      refine tf_go hx ftX11_text 3 [false] 12 [some (.ref o), some (.int (nI 1)), none, none, none] [.int (-6), .ref o] S rfl ⟨by decide, by decide, rfl⟩ ⟨trivial, (tf_leF (a := A.2.2.1) (b := 40) rfl (rfl : (40 : Int32) = nI 40) (by omega) (by omega) (by omega))⟩ ?_
      refine tf_cV hx ftX11_text (nx := 15) (As := [.int (-6)]) (rest := []) (st2 := [.int (-6)]) (m_ref6 ho) rfl lX11_26 (by first | assumption | rfl | decide) rfl ⟨rfl, by decide, by decide, by decide, rfl, rfl⟩ ?_
      exact tf_ret ftX11_text hR rfl ⟨by decide, by decide⟩ rfl rfl rfl
    · rw [if_neg e1]
      have fl := tf_lf_le A.2.1 A.2.2.1 0
      by_cases e2 : tf_lf A.2.1 A.2.2.1 0 < A.2.2.1
      · rw [if_pos e2]
        refine ⟨(tf_set S o 5 0), tf_Fn_of (own := RX11) false ⟨by decide, rfl, by decide⟩ (Nat.le_of_ble_eq_true rfl) trivial (fun x hx hR => ?_), (tf_ms_tn ho hM 0), tf_fm_o⟩
        show tf_K x 0 0 G S 0 [some (.ref o), some (.int (nI 1)), none, none, none] []
        refine tf_go hx ftX11_text 3 [] 6 [some (.ref o), some (.int (nI 1)), none, none, none] [.int 40, .int (S o 5)] S rfl ⟨by decide, by decide, rfl⟩ ⟨trivial, (by first | assumption | rfl | decide | omega)⟩ ?_
        rw [show (S o 5) = nI A.2.2.1 from hM.2.2.1]
        refine tf_go hx ftX11_text 1 [true] 16 [some (.ref o), some (.int (nI 1)), none, none, none] [] S rfl ⟨by decide, by decide, rfl⟩ ⟨trivial, (tf_leT (a := A.2.2.1) (b := 40) rfl (rfl : (40 : Int32) = nI 40) (by omega) (by omega) (by omega))⟩ ?_
        refine tf_go hx ftX11_text 2 [] 18 [some (.ref o), some (.int (nI 1)), none, none, none] [.int (nI 1), .ref o] S rfl ⟨by decide, by decide, rfl⟩ trivial ?_
        refine tf_go hx ftX11_text 2 [true] 26 [some (.ref o), some (.int (nI 1)), none, none, none] [.int 0, .ref o] S rfl ⟨by decide, by decide, rfl⟩ ⟨trivial, (tf_eqF (a := 1) (b := 0) rfl (rfl : (0 : Int32) = nI 0) (by omega) (by omega) (by omega))⟩ ?_
        refine tf_cV hx ftX11_text (nx := 29) (As := [.int 0]) (rest := []) (st2 := [.int (tf_on A.2.2.1 (tf_lf A.2.1 A.2.2.1 0))]) (m_lettersFault (bk := 0) ho hM.2.1 hA4 hM.2.2.1 hA3 (by decide)) rfl lX11_47 (by first | assumption | rfl | decide) rfl ⟨rfl, by decide, by decide, by decide, rfl, rfl⟩ ?_
        rw [tf_on_y e2]
        refine tf_go hx ftX11_text 6 [] 37 [some (.ref o), some (.int (nI 1)), some (.int (nI (tf_lf A.2.1 A.2.2.1 0))), some (.int (S o 5)), none] [.int 0, .ref o] S rfl ⟨by decide, by decide, rfl⟩ ⟨trivial, (by first | assumption | rfl | decide | omega)⟩ ?_
        rw [show (S o 5) = nI A.2.2.1 from hM.2.2.1]
        refine tf_go hx ftX11_text 1 [] 40 [some (.ref o), some (.int (nI 1)), some (.int (nI (tf_lf A.2.1 A.2.2.1 0))), some (.int (nI A.2.2.1)), none] [] (tf_set S o 5 0) rfl ⟨by decide, by decide, rfl⟩ ⟨trivial, (by first | assumption | rfl | decide | omega)⟩ ?_
        refine tf_go hx ftX11_text 5 [false] 48 [some (.ref o), some (.int (nI 1)), some (.int (nI (tf_lf A.2.1 A.2.2.1 0))), some (.int (nI A.2.2.1)), none] [.int ((-20) - (nI (tf_lf A.2.1 A.2.2.1 0)))] (tf_set S o 5 0) rfl ⟨by decide, by decide, rfl⟩ ⟨trivial, (tf_ltF (a := (tf_lf A.2.1 A.2.2.1 0)) (b := 0) rfl (rfl : (0 : Int32) = nI 0) (by have := hA4 A.2.2.1; omega) (by have := hA4 A.2.2.1; omega) (by have := hA4 A.2.2.1; omega))⟩ ?_
        exact tf_ret ftX11_text hR rfl ⟨by decide, by decide⟩ rfl rfl rfl
      · rw [if_neg e2]
        have fv := tf_lf_no e2
        refine ⟨(tf_rw (tf_set S o 5 0) (tf_rf G o 1) (tf_u (tf_tw A.1 A.2.1 144 A.2.2.1) 364 A.2.2.1)), tf_Fn_of (own := RX11) false ⟨by decide, rfl, by decide⟩ (Nat.le_of_ble_eq_true rfl) trivial (fun x hx hR => ?_), (tf_ms_rw ho hd (tf_ms_tn ho hM 0) (tf_u (tf_tw A.1 A.2.1 144 A.2.2.1) 364 A.2.2.1)), (tf_fm_tr tf_fm_o tf_fm_1)⟩
        show tf_K x 0 0 G S 0 [some (.ref o), some (.int (nI 1)), none, none, none] []
        refine tf_go hx ftX11_text 3 [] 6 [some (.ref o), some (.int (nI 1)), none, none, none] [.int 40, .int (S o 5)] S rfl ⟨by decide, by decide, rfl⟩ ⟨trivial, (by first | assumption | rfl | decide | omega)⟩ ?_
        rw [show (S o 5) = nI A.2.2.1 from hM.2.2.1]
        refine tf_go hx ftX11_text 1 [true] 16 [some (.ref o), some (.int (nI 1)), none, none, none] [] S rfl ⟨by decide, by decide, rfl⟩ ⟨trivial, (tf_leT (a := A.2.2.1) (b := 40) rfl (rfl : (40 : Int32) = nI 40) (by omega) (by omega) (by omega))⟩ ?_
        refine tf_go hx ftX11_text 2 [] 18 [some (.ref o), some (.int (nI 1)), none, none, none] [.int (nI 1), .ref o] S rfl ⟨by decide, by decide, rfl⟩ trivial ?_
        refine tf_go hx ftX11_text 2 [true] 26 [some (.ref o), some (.int (nI 1)), none, none, none] [.int 0, .ref o] S rfl ⟨by decide, by decide, rfl⟩ ⟨trivial, (tf_eqF (a := 1) (b := 0) rfl (rfl : (0 : Int32) = nI 0) (by omega) (by omega) (by omega))⟩ ?_
        refine tf_cV hx ftX11_text (nx := 29) (As := [.int 0]) (rest := []) (st2 := [.int (tf_on A.2.2.1 (tf_lf A.2.1 A.2.2.1 0))]) (m_lettersFault (bk := 0) ho hM.2.1 hA4 hM.2.2.1 hA3 (by decide)) rfl lX11_47 (by first | assumption | rfl | decide) rfl ⟨rfl, by decide, by decide, by decide, rfl, rfl⟩ ?_
        rw [tf_on_n e2]
        refine tf_go hx ftX11_text 6 [] 37 [some (.ref o), some (.int (nI 1)), some (.int (-9)), some (.int (S o 5)), none] [.int 0, .ref o] S rfl ⟨by decide, by decide, rfl⟩ ⟨trivial, (by first | assumption | rfl | decide | omega)⟩ ?_
        rw [show (S o 5) = nI A.2.2.1 from hM.2.2.1]
        refine tf_go hx ftX11_text 1 [] 40 [some (.ref o), some (.int (nI 1)), some (.int (-9)), some (.int (nI A.2.2.1)), none] [] (tf_set S o 5 0) rfl ⟨by decide, by decide, rfl⟩ ⟨trivial, (by first | assumption | rfl | decide | omega)⟩ ?_
        refine tf_go hx ftX11_text 4 [true] 52 [some (.ref o), some (.int (nI 1)), some (.int (-9)), some (.int (nI A.2.2.1)), some (.int 0)] [] (tf_set S o 5 0) rfl ⟨by decide, by decide, rfl⟩ ⟨trivial, (by decide)⟩ ?_
        have hid : tf_rw (tf_set S o 5 0) (tf_rf G o 1) A.1 = (tf_set S o 5 0) := tf_rw_id (tf_ms_tn ho hM 0).1
        have loop : ∀ (m k : Nat), k + m = A.2.2.1 → tf_K x 0 0 G (tf_rw (tf_set S o 5 0) (tf_rf G o 1) (tf_tw A.1 A.2.1 144 k)) 52 [some (.ref o), some (.int (nI 1)), some (.int (-9)), some (.int (nI A.2.2.1)), some (.int (nI k))] [] := by
          intro m
          induction m with
          | zero =>
            intro k hk
            have rt : ∀ j, (tf_rw (tf_set S o 5 0) (tf_rf G o 1) (tf_tw A.1 A.2.1 144 k)) (tf_rf G o 4) j = nI (A.2.1 j) := fun j => by rw [tf_rw_n (Ne.symm m14), tf_set_n z4]; exact hM.2.1 j
            have ek : k = A.2.2.1 := by omega
            refine tf_go hx ftX11_text 2 [] 55 [some (.ref o), some (.int (nI 1)), some (.int (-9)), some (.int (nI A.2.2.1)), some (.int (nI k))] [.int (nI A.2.2.1), .int (nI k)] (tf_rw (tf_set S o 5 0) (tf_rf G o 1) (tf_tw A.1 A.2.1 144 k)) rfl ⟨by decide, by decide, rfl⟩ trivial ?_
            refine tf_go hx ftX11_text 1 [true] 112 [some (.ref o), some (.int (nI 1)), some (.int (-9)), some (.int (nI A.2.2.1)), some (.int (nI k))] [] (tf_rw (tf_set S o 5 0) (tf_rf G o 1) (tf_tw A.1 A.2.1 144 k)) rfl ⟨by decide, by decide, rfl⟩ ⟨trivial, (tf_leT (a := A.2.2.1) (b := k) rfl rfl (by omega) (by omega) (by omega))⟩ ?_
            refine tf_go hx ftX11_text 3 [] 117 [some (.ref o), some (.int (nI 1)), some (.int (-9)), some (.int (nI A.2.2.1)), some (.int (nI k))] [.int (nI 1), .ref (tf_rf G o 1)] (tf_rw (tf_set S o 5 0) (tf_rf G o 1) (tf_tw A.1 A.2.1 144 k)) rfl ⟨by decide, by decide, rfl⟩ ⟨trivial, ⟨by first | assumption | rfl | decide | omega, by first | assumption | rfl | decide | omega⟩⟩ ?_
            refine tf_go hx ftX11_text 4 [false] 130 [some (.ref o), some (.int (nI 1)), some (.int (-9)), some (.int (nI A.2.2.1)), some (.int (nI k))] [.int (nI A.2.2.1), .int 364, .ref (tf_rf G o 1)] (tf_rw (tf_set S o 5 0) (tf_rf G o 1) (tf_tw A.1 A.2.1 144 k)) rfl ⟨by decide, by decide, rfl⟩ ⟨trivial, (tf_eqF (a := 1) (b := 0) rfl (rfl : (0 : Int32) = nI 0) (by omega) (by omega) (by omega))⟩ ?_
            refine tf_go hx ftX11_text 1 [] 131 [some (.ref o), some (.int (nI 1)), some (.int (-9)), some (.int (nI A.2.2.1)), some (.int (nI k))] [] (tf_set (tf_rw (tf_set S o 5 0) (tf_rf G o 1) (tf_tw A.1 A.2.1 144 k)) (tf_rf G o 1) (Int32.toNatClampNeg 364) (nI A.2.2.1)) rfl ⟨by decide, by decide, rfl⟩ ⟨trivial, ⟨by first | assumption | rfl | decide | omega, by first | assumption | exact tf_in (n := 364) (rfl : (364 : Int32) = nI 364) (by first | assumption | rfl) (by omega) (by decide)⟩⟩ ?_
            rw [show Int32.toNatClampNeg (364 : Int32) = 364 from rfl]
            rw [tf_rw_u2]
            rw [ek]
            refine tf_go hx ftX11_text 1 [] 132 [some (.ref o), some (.int (nI 1)), some (.int (-9)), some (.int (nI A.2.2.1)), some (.int (nI A.2.2.1))] [.int (nI A.2.2.1)] (tf_rw (tf_set S o 5 0) (tf_rf G o 1) (tf_u (tf_tw A.1 A.2.1 144 A.2.2.1) 364 A.2.2.1)) rfl ⟨by decide, by decide, rfl⟩ trivial ?_
            exact tf_ret ftX11_text hR rfl ⟨by decide, by decide⟩ rfl rfl rfl
          | succ m ih =>
            intro k hk
            have rt : ∀ j, (tf_rw (tf_set S o 5 0) (tf_rf G o 1) (tf_tw A.1 A.2.1 144 k)) (tf_rf G o 4) j = nI (A.2.1 j) := fun j => by rw [tf_rw_n (Ne.symm m14), tf_set_n z4]; exact hM.2.1 j
            have c1 := fv k (by omega)
            refine tf_go hx ftX11_text 2 [] 55 [some (.ref o), some (.int (nI 1)), some (.int (-9)), some (.int (nI A.2.2.1)), some (.int (nI k))] [.int (nI A.2.2.1), .int (nI k)] (tf_rw (tf_set S o 5 0) (tf_rf G o 1) (tf_tw A.1 A.2.1 144 k)) rfl ⟨by decide, by decide, rfl⟩ trivial ?_
            refine tf_go hx ftX11_text 1 [false] 58 [some (.ref o), some (.int (nI 1)), some (.int (-9)), some (.int (nI A.2.2.1)), some (.int (nI k))] [] (tf_rw (tf_set S o 5 0) (tf_rf G o 1) (tf_tw A.1 A.2.1 144 k)) rfl ⟨by decide, by decide, rfl⟩ ⟨trivial, (tf_leF (a := A.2.2.1) (b := k) rfl rfl (by omega) (by omega) (by omega))⟩ ?_
            refine tf_go hx ftX11_text 3 [] 63 [some (.ref o), some (.int (nI 1)), some (.int (-9)), some (.int (nI A.2.2.1)), some (.int (nI k))] [.int (nI 1), .ref (tf_rf G o 1)] (tf_rw (tf_set S o 5 0) (tf_rf G o 1) (tf_tw A.1 A.2.1 144 k)) rfl ⟨by decide, by decide, rfl⟩ ⟨trivial, ⟨by first | assumption | rfl | decide | omega, by first | assumption | rfl | decide | omega⟩⟩ ?_
            refine tf_go hx ftX11_text 3 [false] 75 [some (.ref o), some (.int (nI 1)), some (.int (-9)), some (.int (nI A.2.2.1)), some (.int (nI k))] [.int 144, .ref (tf_rf G o 1)] (tf_rw (tf_set S o 5 0) (tf_rf G o 1) (tf_tw A.1 A.2.1 144 k)) rfl ⟨by decide, by decide, rfl⟩ ⟨trivial, (tf_eqF (a := 1) (b := 0) rfl (rfl : (0 : Int32) = nI 0) (by omega) (by omega) (by omega))⟩ ?_
            refine tf_go hx ftX11_text 7 [] 87 [some (.ref o), some (.int (nI 1)), some (.int (-9)), some (.int (nI A.2.2.1)), some (.int (nI k))] [.int 60, .int ((tf_rw (tf_set S o 5 0) (tf_rf G o 1) (tf_tw A.1 A.2.1 144 k)) (tf_rf G o 4) (Int32.toNatClampNeg (nI k))), .int (144 + (nI k)), .ref (tf_rf G o 1)] (tf_rw (tf_set S o 5 0) (tf_rf G o 1) (tf_tw A.1 A.2.1 144 k)) rfl ⟨by decide, by decide, rfl⟩ ⟨⟨trivial, ⟨by first | assumption | rfl | decide | omega, by first | assumption | rfl | decide | omega⟩⟩, ⟨Or.inl (by first | assumption | rfl | decide | omega), by first | assumption | exact tf_in (n := k) rfl (by first | assumption | rfl) (by omega) (by decide)⟩⟩ ?_
            rw [show ((tf_rw (tf_set S o 5 0) (tf_rf G o 1) (tf_tw A.1 A.2.1 144 k)) (tf_rf G o 4) (Int32.toNatClampNeg (nI k))) = nI (A.2.1 k) from (tf_rd rt rfl (by omega))]
            rw [show (144 + (nI k)) = nI (144 + k) from (tf_add (a := 144) (b := k) (rfl : (144 : Int32) = nI 144) rfl)]
            by_cases c2 : A.2.1 k = 60
            · refine tf_go hx ftX11_text 3 [false] 105 [some (.ref o), some (.int (nI 1)), some (.int (-9)), some (.int (nI A.2.2.1)), some (.int (nI k))] [.int 26, .int (nI (144 + k)), .ref (tf_rf G o 1)] (tf_rw (tf_set S o 5 0) (tf_rf G o 1) (tf_tw A.1 A.2.1 144 k)) rfl ⟨by decide, by decide, rfl⟩ ⟨trivial, (tf_neF (a := (A.2.1 k)) (b := 60) rfl (rfl : (60 : Int32) = nI 60) (by have := hA4 k; omega))⟩ ?_
              show tf_K x 0 0 G (tf_rw (tf_set S o 5 0) (tf_rf G o 1) (tf_tw A.1 A.2.1 144 k)) 105 [some (.ref o), some (.int (nI 1)), some (.int (-9)), some (.int (nI A.2.2.1)), some (.int (nI k))] [.int (nI 26), .int (nI (144 + k)), .ref (tf_rf G o 1)]
              have bv : tf_tv2 (A.2.1 k) = 26 := by unfold tf_tv2; rw [if_pos c2]
              refine tf_go hx ftX11_text 1 [] 106 [some (.ref o), some (.int (nI 1)), some (.int (-9)), some (.int (nI A.2.2.1)), some (.int (nI k))] [] (tf_set (tf_rw (tf_set S o 5 0) (tf_rf G o 1) (tf_tw A.1 A.2.1 144 k)) (tf_rf G o 1) (Int32.toNatClampNeg (nI (144 + k))) (nI 26)) rfl ⟨by decide, by decide, rfl⟩ ⟨trivial, ⟨by first | assumption | rfl | decide | omega, by first | assumption | exact tf_in (n := (144 + k)) rfl (by first | assumption | rfl) (by omega) (by decide)⟩⟩ ?_
              rw [show Int32.toNatClampNeg (nI (144 + k)) = (144 + k) from tf_cln rfl (by omega)]
              rw [tf_rw_u2]
              have bu := @tf_tw_s A.1 A.2.1 144 k
              rw [bv] at bu
              rw [bu]
              refine tf_go hx ftX11_text 2 [] 52 [some (.ref o), some (.int (nI 1)), some (.int (-9)), some (.int (nI A.2.2.1)), some (.int ((nI k) + 1))] [] (tf_rw (tf_set S o 5 0) (tf_rf G o 1) (tf_tw A.1 A.2.1 144 (k + 1))) rfl ⟨by decide, by decide, rfl⟩ trivial ?_
              rw [show ((nI k) + 1) = nI (k + 1) from (tf_add (a := k) (b := 1) rfl (rfl : (1 : Int32) = nI 1))]
              exact ih (k + 1) (by omega)
            · have c3 : 97 ≤ A.2.1 k := by rcases c1 with h | h; exact h.1; exact absurd h.2 c2
              refine tf_go hx ftX11_text 7 [true] 105 [some (.ref o), some (.int (nI 1)), some (.int (-9)), some (.int (nI A.2.2.1)), some (.int (nI k))] [.int (((tf_rw (tf_set S o 5 0) (tf_rf G o 1) (tf_tw A.1 A.2.1 144 k)) (tf_rf G o 4) (Int32.toNatClampNeg (nI k))) - 97), .int (nI (144 + k)), .ref (tf_rf G o 1)] (tf_rw (tf_set S o 5 0) (tf_rf G o 1) (tf_tw A.1 A.2.1 144 k)) rfl ⟨by decide, by decide, rfl⟩ ⟨⟨⟨trivial, (tf_eqF (a := (A.2.1 k)) (b := 60) rfl (rfl : (60 : Int32) = nI 60) (by have := hA4 k; omega) (by have := hA4 k; omega) (by have := hA4 k; omega))⟩, ⟨by first | assumption | rfl | decide | omega, by first | assumption | rfl | decide | omega⟩⟩, ⟨Or.inl (by first | assumption | rfl | decide | omega), by first | assumption | exact tf_in (n := k) rfl (by first | assumption | rfl) (by omega) (by decide)⟩⟩ ?_
              rw [show (((tf_rw (tf_set S o 5 0) (tf_rf G o 1) (tf_tw A.1 A.2.1 144 k)) (tf_rf G o 4) (Int32.toNatClampNeg (nI k))) - 97) = nI ((A.2.1 k) - 97) from (tf_sub (a := (A.2.1 k)) (b := 97) (tf_rd rt rfl (by omega)) (rfl : (97 : Int32) = nI 97) (by have := hA4 k; omega))]
              have bv : tf_tv2 (A.2.1 k) = A.2.1 k - 97 := by unfold tf_tv2; rw [if_neg c2]
              refine tf_go hx ftX11_text 1 [] 106 [some (.ref o), some (.int (nI 1)), some (.int (-9)), some (.int (nI A.2.2.1)), some (.int (nI k))] [] (tf_set (tf_rw (tf_set S o 5 0) (tf_rf G o 1) (tf_tw A.1 A.2.1 144 k)) (tf_rf G o 1) (Int32.toNatClampNeg (nI (144 + k))) (nI ((A.2.1 k) - 97))) rfl ⟨by decide, by decide, rfl⟩ ⟨trivial, ⟨by first | assumption | rfl | decide | omega, by first | assumption | exact tf_in (n := (144 + k)) rfl (by first | assumption | rfl) (by omega) (by decide)⟩⟩ ?_
              rw [show Int32.toNatClampNeg (nI (144 + k)) = (144 + k) from tf_cln rfl (by omega)]
              rw [tf_rw_u2]
              have bu := @tf_tw_s A.1 A.2.1 144 k
              rw [bv] at bu
              rw [bu]
              refine tf_go hx ftX11_text 2 [] 52 [some (.ref o), some (.int (nI 1)), some (.int (-9)), some (.int (nI A.2.2.1)), some (.int ((nI k) + 1))] [] (tf_rw (tf_set S o 5 0) (tf_rf G o 1) (tf_tw A.1 A.2.1 144 (k + 1))) rfl ⟨by decide, by decide, rfl⟩ trivial ?_
              rw [show ((nI k) + 1) = nI (k + 1) from (tf_add (a := k) (b := 1) rfl (rfl : (1 : Int32) = nI 1))]
              exact ih (k + 1) (by omega)
        have h0 := loop A.2.2.1 0 (by omega)
        rw [tf_tw_0, hid] at h0
        exact h0

set_option maxHeartbeats 2000000 in
theorem p_word {G : tf_G} {S : tf_Sg} {o : Nat} {A : tf_A}  (ho : tf_mo G o) (hd : tf_md G o) (hA : tf_okA A) (hM : tf_ms G S o A)  : tf_pm mX11_word 3 G S o [.ref o] (s_word A) := by
  obtain ⟨h1, ⟨r0, t0, n0⟩, ⟨r1, t1, n1⟩, ⟨r2, t2, n2⟩, ⟨r4, t4, n4⟩⟩ := id ho
  obtain ⟨hg, hb, hA3, hA4, hA5, hA6⟩ := id hA
  have hs := hM.1
  have hf : tf_sf G S o A.1 := ⟨hM.1, hb⟩
  obtain ⟨⟨g1, g2, g3, g4⟩, g5, g6, g7, g8, g9, g10, g11⟩ := id hg
  obtain ⟨z0, z1, z2, z4⟩ := tf_mo_ne ho
  obtain ⟨m01, m02, m04, m12, m14, m24⟩ := id hd
  unfold s_word
  by_cases e1 : A.1 366 = 10
  · rw [if_pos e1]
    refine ⟨tf_rfS G S o 6, tf_Fn_of (own := RX11) false ⟨by decide, rfl, by decide⟩ (Nat.le_of_ble_eq_true rfl) trivial (fun x hx hR => ?_), tf_ms_ref ho hd hM 6, tf_fm_0⟩
    show tf_K x 0 0 G S 0 [some (.ref o), none, none, none, none] []
    refine tf_go hx ftX11_word 5 [] 10 [some (.ref o), none, none, none, none] [.int 10, .int (S (tf_rf G o 1) (Int32.toNatClampNeg 366))] S rfl ⟨by decide, by decide, rfl⟩ ⟨⟨trivial, ⟨by first | assumption | rfl | decide | omega, by first | assumption | rfl | decide | omega⟩⟩, ⟨Or.inl (by first | assumption | rfl | decide | omega), by first | assumption | exact tf_in (n := 366) (rfl : (366 : Int32) = nI 366) (by first | assumption | rfl) (by omega) (by decide)⟩⟩ ?_
    rw [show (S (tf_rf G o 1) (Int32.toNatClampNeg 366)) = nI (A.1 366) from (tf_rd hs (rfl : (366 : Int32) = nI 366) (by omega))]
    refine tf_go hx ftX11_word 3 [false] 16 [some (.ref o), none, none, none, none] [.int (-6), .ref o] S rfl ⟨by decide, by decide, rfl⟩ ⟨trivial, (tf_neF (a := (A.1 366)) (b := 10) rfl (rfl : (10 : Int32) = nI 10) (by have := hb 366; omega))⟩ ?_
    refine tf_cV hx ftX11_word (nx := 19) (As := [.int (-6)]) (rest := []) (st2 := [.int (-6)]) (m_ref6 ho) rfl lX11_26 (by first | assumption | rfl | decide) rfl ⟨rfl, by decide, by decide, by decide, rfl, rfl⟩ ?_
    exact tf_ret ftX11_word hR rfl ⟨by decide, by decide⟩ rfl rfl rfl
  · rw [if_neg e1]
    have fl := tf_lf_le A.2.1 A.2.2.1 0
    by_cases e2 : tf_lf A.2.1 A.2.2.1 0 < A.2.2.1
    · rw [if_pos e2]
      refine ⟨(tf_set S o 5 0), tf_Fn_of (own := RX11) false ⟨by decide, rfl, by decide⟩ (Nat.le_of_ble_eq_true rfl) trivial (fun x hx hR => ?_), (tf_ms_tn ho hM 0), tf_fm_o⟩
      show tf_K x 0 0 G S 0 [some (.ref o), none, none, none, none] []
      refine tf_go hx ftX11_word 5 [] 10 [some (.ref o), none, none, none, none] [.int 10, .int (S (tf_rf G o 1) (Int32.toNatClampNeg 366))] S rfl ⟨by decide, by decide, rfl⟩ ⟨⟨trivial, ⟨by first | assumption | rfl | decide | omega, by first | assumption | rfl | decide | omega⟩⟩, ⟨Or.inl (by first | assumption | rfl | decide | omega), by first | assumption | exact tf_in (n := 366) (rfl : (366 : Int32) = nI 366) (by first | assumption | rfl) (by omega) (by decide)⟩⟩ ?_
      rw [show (S (tf_rf G o 1) (Int32.toNatClampNeg 366)) = nI (A.1 366) from (tf_rd hs (rfl : (366 : Int32) = nI 366) (by omega))]
      refine tf_go hx ftX11_word 1 [true] 20 [some (.ref o), none, none, none, none] [] S rfl ⟨by decide, by decide, rfl⟩ ⟨trivial, (tf_eqF (a := (A.1 366)) (b := 10) rfl (rfl : (10 : Int32) = nI 10) (by have := hb 366; omega) (by have := hb 366; omega) (by have := hb 366; omega))⟩ ?_
      refine tf_go hx ftX11_word 2 [] 22 [some (.ref o), none, none, none, none] [.int 0, .ref o] S rfl ⟨by decide, by decide, rfl⟩ trivial ?_
      refine tf_cV hx ftX11_word (nx := 25) (As := [.int 0]) (rest := []) (st2 := [.int (tf_on A.2.2.1 (tf_lf A.2.1 A.2.2.1 0))]) (m_lettersFault (bk := 0) ho hM.2.1 hA4 hM.2.2.1 hA3 (by decide)) rfl lX11_47 (by first | assumption | rfl | decide) rfl ⟨rfl, by decide, by decide, by decide, rfl, rfl⟩ ?_
      rw [tf_on_y e2]
      refine tf_go hx ftX11_word 6 [] 33 [some (.ref o), some (.int (nI (tf_lf A.2.1 A.2.2.1 0))), some (.int (S o 5)), none, none] [.int 0, .ref o] S rfl ⟨by decide, by decide, rfl⟩ ⟨trivial, (by first | assumption | rfl | decide | omega)⟩ ?_
      rw [show (S o 5) = nI A.2.2.1 from hM.2.2.1]
      refine tf_go hx ftX11_word 1 [] 36 [some (.ref o), some (.int (nI (tf_lf A.2.1 A.2.2.1 0))), some (.int (nI A.2.2.1)), none, none] [] (tf_set S o 5 0) rfl ⟨by decide, by decide, rfl⟩ ⟨trivial, (by first | assumption | rfl | decide | omega)⟩ ?_
      refine tf_go hx ftX11_word 5 [false] 44 [some (.ref o), some (.int (nI (tf_lf A.2.1 A.2.2.1 0))), some (.int (nI A.2.2.1)), none, none] [.int ((-20) - (nI (tf_lf A.2.1 A.2.2.1 0)))] (tf_set S o 5 0) rfl ⟨by decide, by decide, rfl⟩ ⟨trivial, (tf_ltF (a := (tf_lf A.2.1 A.2.2.1 0)) (b := 0) rfl (rfl : (0 : Int32) = nI 0) (by have := hA4 A.2.2.1; omega) (by have := hA4 A.2.2.1; omega) (by have := hA4 A.2.2.1; omega))⟩ ?_
      exact tf_ret ftX11_word hR rfl ⟨by decide, by decide⟩ rfl rfl rfl
    · rw [if_neg e2]
      have fv := tf_lf_no e2
      by_cases e3 : A.2.2.1 < 2
      · rw [if_pos (Or.inl e3)]
        refine ⟨(tf_rfS G (tf_set S o 5 0) o 3), tf_Fn_of (own := RX11) false ⟨by decide, rfl, by decide⟩ (Nat.le_of_ble_eq_true rfl) trivial (fun x hx hR => ?_), (tf_ms_ref ho hd (tf_ms_tn ho hM 0) 3), (tf_fm_tr tf_fm_o tf_fm_0)⟩
        show tf_K x 0 0 G S 0 [some (.ref o), none, none, none, none] []
        refine tf_go hx ftX11_word 5 [] 10 [some (.ref o), none, none, none, none] [.int 10, .int (S (tf_rf G o 1) (Int32.toNatClampNeg 366))] S rfl ⟨by decide, by decide, rfl⟩ ⟨⟨trivial, ⟨by first | assumption | rfl | decide | omega, by first | assumption | rfl | decide | omega⟩⟩, ⟨Or.inl (by first | assumption | rfl | decide | omega), by first | assumption | exact tf_in (n := 366) (rfl : (366 : Int32) = nI 366) (by first | assumption | rfl) (by omega) (by decide)⟩⟩ ?_
        rw [show (S (tf_rf G o 1) (Int32.toNatClampNeg 366)) = nI (A.1 366) from (tf_rd hs (rfl : (366 : Int32) = nI 366) (by omega))]
        refine tf_go hx ftX11_word 1 [true] 20 [some (.ref o), none, none, none, none] [] S rfl ⟨by decide, by decide, rfl⟩ ⟨trivial, (tf_eqF (a := (A.1 366)) (b := 10) rfl (rfl : (10 : Int32) = nI 10) (by have := hb 366; omega) (by have := hb 366; omega) (by have := hb 366; omega))⟩ ?_
        refine tf_go hx ftX11_word 2 [] 22 [some (.ref o), none, none, none, none] [.int 0, .ref o] S rfl ⟨by decide, by decide, rfl⟩ trivial ?_
        refine tf_cV hx ftX11_word (nx := 25) (As := [.int 0]) (rest := []) (st2 := [.int (tf_on A.2.2.1 (tf_lf A.2.1 A.2.2.1 0))]) (m_lettersFault (bk := 0) ho hM.2.1 hA4 hM.2.2.1 hA3 (by decide)) rfl lX11_47 (by first | assumption | rfl | decide) rfl ⟨rfl, by decide, by decide, by decide, rfl, rfl⟩ ?_
        rw [tf_on_n e2]
        refine tf_go hx ftX11_word 6 [] 33 [some (.ref o), some (.int (-9)), some (.int (S o 5)), none, none] [.int 0, .ref o] S rfl ⟨by decide, by decide, rfl⟩ ⟨trivial, (by first | assumption | rfl | decide | omega)⟩ ?_
        rw [show (S o 5) = nI A.2.2.1 from hM.2.2.1]
        refine tf_go hx ftX11_word 1 [] 36 [some (.ref o), some (.int (-9)), some (.int (nI A.2.2.1)), none, none] [] (tf_set S o 5 0) rfl ⟨by decide, by decide, rfl⟩ ⟨trivial, (by first | assumption | rfl | decide | omega)⟩ ?_
        refine tf_go hx ftX11_word 2 [true] 45 [some (.ref o), some (.int (-9)), some (.int (nI A.2.2.1)), none, none] [] (tf_set S o 5 0) rfl ⟨by decide, by decide, rfl⟩ ⟨trivial, (by decide)⟩ ?_
        refine tf_go hx ftX11_word 2 [] 47 [some (.ref o), some (.int (-9)), some (.int (nI A.2.2.1)), none, none] [.int 2, .int (nI A.2.2.1)] (tf_set S o 5 0) rfl ⟨by decide, by decide, rfl⟩ trivial ?_
        refine tf_go hx ftX11_word 3 [true] 59 [some (.ref o), some (.int (-9)), some (.int (nI A.2.2.1)), none, none] [.int (-3), .ref o] (tf_set S o 5 0) rfl ⟨by decide, by decide, rfl⟩ ⟨trivial, (tf_ltT (a := A.2.2.1) (b := 2) rfl (rfl : (2 : Int32) = nI 2) (by omega) (by omega) (by omega))⟩ ?_
        refine tf_cV hx ftX11_word (nx := 62) (As := [.int (-3)]) (rest := []) (st2 := [.int (-3)]) (m_ref3 ho) rfl lX11_26 (by first | assumption | rfl | decide) rfl ⟨rfl, by decide, by decide, by decide, rfl, rfl⟩ ?_
        exact tf_ret ftX11_word hR rfl ⟨by decide, by decide⟩ rfl rfl rfl
      · by_cases e4 : 8 < A.2.2.1
        · rw [if_pos (Or.inr e4)]
          refine ⟨(tf_rfS G (tf_set S o 5 0) o 3), tf_Fn_of (own := RX11) false ⟨by decide, rfl, by decide⟩ (Nat.le_of_ble_eq_true rfl) trivial (fun x hx hR => ?_), (tf_ms_ref ho hd (tf_ms_tn ho hM 0) 3), (tf_fm_tr tf_fm_o tf_fm_0)⟩
          show tf_K x 0 0 G S 0 [some (.ref o), none, none, none, none] []
          refine tf_go hx ftX11_word 5 [] 10 [some (.ref o), none, none, none, none] [.int 10, .int (S (tf_rf G o 1) (Int32.toNatClampNeg 366))] S rfl ⟨by decide, by decide, rfl⟩ ⟨⟨trivial, ⟨by first | assumption | rfl | decide | omega, by first | assumption | rfl | decide | omega⟩⟩, ⟨Or.inl (by first | assumption | rfl | decide | omega), by first | assumption | exact tf_in (n := 366) (rfl : (366 : Int32) = nI 366) (by first | assumption | rfl) (by omega) (by decide)⟩⟩ ?_
          rw [show (S (tf_rf G o 1) (Int32.toNatClampNeg 366)) = nI (A.1 366) from (tf_rd hs (rfl : (366 : Int32) = nI 366) (by omega))]
          refine tf_go hx ftX11_word 1 [true] 20 [some (.ref o), none, none, none, none] [] S rfl ⟨by decide, by decide, rfl⟩ ⟨trivial, (tf_eqF (a := (A.1 366)) (b := 10) rfl (rfl : (10 : Int32) = nI 10) (by have := hb 366; omega) (by have := hb 366; omega) (by have := hb 366; omega))⟩ ?_
          refine tf_go hx ftX11_word 2 [] 22 [some (.ref o), none, none, none, none] [.int 0, .ref o] S rfl ⟨by decide, by decide, rfl⟩ trivial ?_
          refine tf_cV hx ftX11_word (nx := 25) (As := [.int 0]) (rest := []) (st2 := [.int (tf_on A.2.2.1 (tf_lf A.2.1 A.2.2.1 0))]) (m_lettersFault (bk := 0) ho hM.2.1 hA4 hM.2.2.1 hA3 (by decide)) rfl lX11_47 (by first | assumption | rfl | decide) rfl ⟨rfl, by decide, by decide, by decide, rfl, rfl⟩ ?_
          rw [tf_on_n e2]
          refine tf_go hx ftX11_word 6 [] 33 [some (.ref o), some (.int (-9)), some (.int (S o 5)), none, none] [.int 0, .ref o] S rfl ⟨by decide, by decide, rfl⟩ ⟨trivial, (by first | assumption | rfl | decide | omega)⟩ ?_
          rw [show (S o 5) = nI A.2.2.1 from hM.2.2.1]
          refine tf_go hx ftX11_word 1 [] 36 [some (.ref o), some (.int (-9)), some (.int (nI A.2.2.1)), none, none] [] (tf_set S o 5 0) rfl ⟨by decide, by decide, rfl⟩ ⟨trivial, (by first | assumption | rfl | decide | omega)⟩ ?_
          refine tf_go hx ftX11_word 2 [true] 45 [some (.ref o), some (.int (-9)), some (.int (nI A.2.2.1)), none, none] [] (tf_set S o 5 0) rfl ⟨by decide, by decide, rfl⟩ ⟨trivial, (by decide)⟩ ?_
          refine tf_go hx ftX11_word 2 [] 47 [some (.ref o), some (.int (-9)), some (.int (nI A.2.2.1)), none, none] [.int 2, .int (nI A.2.2.1)] (tf_set S o 5 0) rfl ⟨by decide, by decide, rfl⟩ trivial ?_
          refine tf_go hx ftX11_word 1 [false] 50 [some (.ref o), some (.int (-9)), some (.int (nI A.2.2.1)), none, none] [] (tf_set S o 5 0) rfl ⟨by decide, by decide, rfl⟩ ⟨trivial, (tf_ltF (a := A.2.2.1) (b := 2) rfl (rfl : (2 : Int32) = nI 2) (by omega) (by omega) (by omega))⟩ ?_
          refine tf_go hx ftX11_word 2 [] 53 [some (.ref o), some (.int (-9)), some (.int (nI A.2.2.1)), none, none] [.int 8, .int (nI A.2.2.1)] (tf_set S o 5 0) rfl ⟨by decide, by decide, rfl⟩ trivial ?_
          refine tf_go hx ftX11_word 3 [false] 59 [some (.ref o), some (.int (-9)), some (.int (nI A.2.2.1)), none, none] [.int (-3), .ref o] (tf_set S o 5 0) rfl ⟨by decide, by decide, rfl⟩ ⟨trivial, (tf_leF (a := A.2.2.1) (b := 8) rfl (rfl : (8 : Int32) = nI 8) (by omega) (by omega) (by omega))⟩ ?_
          refine tf_cV hx ftX11_word (nx := 62) (As := [.int (-3)]) (rest := []) (st2 := [.int (-3)]) (m_ref3 ho) rfl lX11_26 (by first | assumption | rfl | decide) rfl ⟨rfl, by decide, by decide, by decide, rfl, rfl⟩ ?_
          exact tf_ret ftX11_word hR rfl ⟨by decide, by decide⟩ rfl rfl rfl
        · rw [if_neg (by rintro (h | h); exact e3 h; exact e4 h)]
          refine ⟨(tf_rw (tf_set S o 5 0) (tf_rf G o 1) (tf_u (tf_tw (tf_u (tf_u A.1 (224 + 10 * A.1 366) A.2.2.1) ((224 + 10 * A.1 366) + 1) 0) A.2.1 ((224 + 10 * A.1 366) + 2) A.2.2.1) 366 (A.1 366 + 1))), tf_Fn_of (own := RX11) false ⟨by decide, rfl, by decide⟩ (Nat.le_of_ble_eq_true rfl) trivial (fun x hx hR => ?_), (tf_ms_rw ho hd (tf_ms_tn ho hM 0) (tf_u (tf_tw (tf_u (tf_u A.1 (224 + 10 * A.1 366) A.2.2.1) ((224 + 10 * A.1 366) + 1) 0) A.2.1 ((224 + 10 * A.1 366) + 2) A.2.2.1) 366 (A.1 366 + 1))), (tf_fm_tr tf_fm_o tf_fm_1)⟩
          show tf_K x 0 0 G S 0 [some (.ref o), none, none, none, none] []
          refine tf_go hx ftX11_word 5 [] 10 [some (.ref o), none, none, none, none] [.int 10, .int (S (tf_rf G o 1) (Int32.toNatClampNeg 366))] S rfl ⟨by decide, by decide, rfl⟩ ⟨⟨trivial, ⟨by first | assumption | rfl | decide | omega, by first | assumption | rfl | decide | omega⟩⟩, ⟨Or.inl (by first | assumption | rfl | decide | omega), by first | assumption | exact tf_in (n := 366) (rfl : (366 : Int32) = nI 366) (by first | assumption | rfl) (by omega) (by decide)⟩⟩ ?_
          rw [show (S (tf_rf G o 1) (Int32.toNatClampNeg 366)) = nI (A.1 366) from (tf_rd hs (rfl : (366 : Int32) = nI 366) (by omega))]
          refine tf_go hx ftX11_word 1 [true] 20 [some (.ref o), none, none, none, none] [] S rfl ⟨by decide, by decide, rfl⟩ ⟨trivial, (tf_eqF (a := (A.1 366)) (b := 10) rfl (rfl : (10 : Int32) = nI 10) (by have := hb 366; omega) (by have := hb 366; omega) (by have := hb 366; omega))⟩ ?_
          refine tf_go hx ftX11_word 2 [] 22 [some (.ref o), none, none, none, none] [.int 0, .ref o] S rfl ⟨by decide, by decide, rfl⟩ trivial ?_
          refine tf_cV hx ftX11_word (nx := 25) (As := [.int 0]) (rest := []) (st2 := [.int (tf_on A.2.2.1 (tf_lf A.2.1 A.2.2.1 0))]) (m_lettersFault (bk := 0) ho hM.2.1 hA4 hM.2.2.1 hA3 (by decide)) rfl lX11_47 (by first | assumption | rfl | decide) rfl ⟨rfl, by decide, by decide, by decide, rfl, rfl⟩ ?_
          rw [tf_on_n e2]
          refine tf_go hx ftX11_word 6 [] 33 [some (.ref o), some (.int (-9)), some (.int (S o 5)), none, none] [.int 0, .ref o] S rfl ⟨by decide, by decide, rfl⟩ ⟨trivial, (by first | assumption | rfl | decide | omega)⟩ ?_
          rw [show (S o 5) = nI A.2.2.1 from hM.2.2.1]
          refine tf_go hx ftX11_word 1 [] 36 [some (.ref o), some (.int (-9)), some (.int (nI A.2.2.1)), none, none] [] (tf_set S o 5 0) rfl ⟨by decide, by decide, rfl⟩ ⟨trivial, (by first | assumption | rfl | decide | omega)⟩ ?_
          refine tf_go hx ftX11_word 2 [true] 45 [some (.ref o), some (.int (-9)), some (.int (nI A.2.2.1)), none, none] [] (tf_set S o 5 0) rfl ⟨by decide, by decide, rfl⟩ ⟨trivial, (by decide)⟩ ?_
          refine tf_go hx ftX11_word 2 [] 47 [some (.ref o), some (.int (-9)), some (.int (nI A.2.2.1)), none, none] [.int 2, .int (nI A.2.2.1)] (tf_set S o 5 0) rfl ⟨by decide, by decide, rfl⟩ trivial ?_
          refine tf_go hx ftX11_word 1 [false] 50 [some (.ref o), some (.int (-9)), some (.int (nI A.2.2.1)), none, none] [] (tf_set S o 5 0) rfl ⟨by decide, by decide, rfl⟩ ⟨trivial, (tf_ltF (a := A.2.2.1) (b := 2) rfl (rfl : (2 : Int32) = nI 2) (by omega) (by omega) (by omega))⟩ ?_
          refine tf_go hx ftX11_word 2 [] 53 [some (.ref o), some (.int (-9)), some (.int (nI A.2.2.1)), none, none] [.int 8, .int (nI A.2.2.1)] (tf_set S o 5 0) rfl ⟨by decide, by decide, rfl⟩ trivial ?_
          refine tf_go hx ftX11_word 1 [true] 63 [some (.ref o), some (.int (-9)), some (.int (nI A.2.2.1)), none, none] [] (tf_set S o 5 0) rfl ⟨by decide, by decide, rfl⟩ ⟨trivial, (tf_leT (a := A.2.2.1) (b := 8) rfl (rfl : (8 : Int32) = nI 8) (by omega) (by omega) (by omega))⟩ ?_
          refine tf_go hx ftX11_word 9 [] 79 [some (.ref o), some (.int (-9)), some (.int (nI A.2.2.1)), some (.int (224 + (10 * ((tf_set S o 5 0) (tf_rf G o 1) (Int32.toNatClampNeg 366))))), none] [] (tf_set S o 5 0) rfl ⟨by decide, by decide, rfl⟩ ⟨⟨trivial, ⟨by first | assumption | rfl | decide | omega, by first | assumption | rfl | decide | omega⟩⟩, ⟨Or.inl (by first | assumption | rfl | decide | omega), by first | assumption | exact tf_in (n := 366) (rfl : (366 : Int32) = nI 366) (by first | assumption | rfl) (by omega) (by decide)⟩⟩ ?_
          rw [show (224 + (10 * ((tf_set S o 5 0) (tf_rf G o 1) (Int32.toNatClampNeg 366)))) = nI (224 + (10 * (A.1 366))) from (tf_add (a := 224) (b := (10 * (A.1 366))) (rfl : (224 : Int32) = nI 224) (tf_mul (a := 10) (b := (A.1 366)) (rfl : (10 : Int32) = nI 10) (tf_rd (tf_ms_tn ho hM 0).1 (rfl : (366 : Int32) = nI 366) (by omega))))]
          refine tf_go hx ftX11_word 4 [] 85 [some (.ref o), some (.int (-9)), some (.int (nI A.2.2.1)), some (.int (nI (224 + (10 * (A.1 366))))), none] [.int (nI A.2.2.1), .int (nI (224 + (10 * (A.1 366)))), .ref (tf_rf G o 1)] (tf_set S o 5 0) rfl ⟨by decide, by decide, rfl⟩ ⟨trivial, ⟨by first | assumption | rfl | decide | omega, by first | assumption | rfl | decide | omega⟩⟩ ?_
          refine tf_go hx ftX11_word 1 [] 86 [some (.ref o), some (.int (-9)), some (.int (nI A.2.2.1)), some (.int (nI (224 + (10 * (A.1 366))))), none] [] (tf_set (tf_set S o 5 0) (tf_rf G o 1) (Int32.toNatClampNeg (nI (224 + (10 * (A.1 366))))) (nI A.2.2.1)) rfl ⟨by decide, by decide, rfl⟩ ⟨trivial, ⟨by first | assumption | rfl | decide | omega, by first | assumption | exact tf_in (n := (224 + (10 * (A.1 366)))) rfl (by first | assumption | rfl) (by have := hb 366; omega) (by decide)⟩⟩ ?_
          rw [show Int32.toNatClampNeg (nI (224 + (10 * (A.1 366)))) = (224 + (10 * (A.1 366))) from tf_cln rfl (by have := hb 366; omega)]
          rw [tf_rw_u (S := (tf_set S o 5 0)) (a := tf_rf G o 1) (F := A.1) (tf_ms_tn ho hM 0).1]
          refine tf_go hx ftX11_word 6 [] 94 [some (.ref o), some (.int (-9)), some (.int (nI A.2.2.1)), some (.int (nI (224 + (10 * (A.1 366))))), none] [.int 0, .int ((nI (224 + (10 * (A.1 366)))) + 1), .ref (tf_rf G o 1)] (tf_rw (tf_set S o 5 0) (tf_rf G o 1) (tf_u A.1 (224 + 10 * A.1 366) A.2.2.1)) rfl ⟨by decide, by decide, rfl⟩ ⟨trivial, ⟨by first | assumption | rfl | decide | omega, by first | assumption | rfl | decide | omega⟩⟩ ?_
          rw [show ((nI (224 + (10 * (A.1 366)))) + 1) = nI ((224 + (10 * (A.1 366))) + 1) from (tf_add (a := (224 + (10 * (A.1 366)))) (b := 1) rfl (rfl : (1 : Int32) = nI 1))]
          show tf_K x 0 0 G (tf_rw (tf_set S o 5 0) (tf_rf G o 1) (tf_u A.1 (224 + 10 * A.1 366) A.2.2.1)) 94 [some (.ref o), some (.int (-9)), some (.int (nI A.2.2.1)), some (.int (nI (224 + (10 * (A.1 366))))), none] [.int (nI 0), .int (nI ((224 + (10 * (A.1 366))) + 1)), .ref (tf_rf G o 1)]
          refine tf_go hx ftX11_word 1 [] 95 [some (.ref o), some (.int (-9)), some (.int (nI A.2.2.1)), some (.int (nI (224 + (10 * (A.1 366))))), none] [] (tf_set (tf_rw (tf_set S o 5 0) (tf_rf G o 1) (tf_u A.1 (224 + 10 * A.1 366) A.2.2.1)) (tf_rf G o 1) (Int32.toNatClampNeg (nI ((224 + (10 * (A.1 366))) + 1))) (nI 0)) rfl ⟨by decide, by decide, rfl⟩ ⟨trivial, ⟨by first | assumption | rfl | decide | omega, by first | assumption | exact tf_in (n := ((224 + (10 * (A.1 366))) + 1)) rfl (by first | assumption | rfl) (by have := hb 366; omega) (by decide)⟩⟩ ?_
          rw [show Int32.toNatClampNeg (nI ((224 + (10 * (A.1 366))) + 1)) = ((224 + (10 * (A.1 366))) + 1) from tf_cln rfl (by have := hb 366; omega)]
          rw [tf_rw_u2]
          refine tf_go hx ftX11_word 2 [] 98 [some (.ref o), some (.int (-9)), some (.int (nI A.2.2.1)), some (.int (nI (224 + (10 * (A.1 366))))), some (.int 0)] [] (tf_rw (tf_set S o 5 0) (tf_rf G o 1) (tf_u (tf_u A.1 (224 + 10 * A.1 366) A.2.2.1) ((224 + 10 * A.1 366) + 1) 0)) rfl ⟨by decide, by decide, rfl⟩ trivial ?_
          have loop : ∀ (m k : Nat), k + m = A.2.2.1 → tf_K x 0 0 G (tf_rw (tf_set S o 5 0) (tf_rf G o 1) (tf_tw (tf_u (tf_u A.1 (224 + 10 * A.1 366) A.2.2.1) ((224 + 10 * A.1 366) + 1) 0) A.2.1 ((224 + 10 * A.1 366) + 2) k)) 98 [some (.ref o), some (.int (-9)), some (.int (nI A.2.2.1)), some (.int (nI (224 + 10 * A.1 366))), some (.int (nI k))] [] := by
            intro m
            induction m with
            | zero =>
              intro k hk
              have rt : ∀ j, (tf_rw (tf_set S o 5 0) (tf_rf G o 1) (tf_tw (tf_u (tf_u A.1 (224 + 10 * A.1 366) A.2.2.1) ((224 + 10 * A.1 366) + 1) 0) A.2.1 ((224 + 10 * A.1 366) + 2) k)) (tf_rf G o 4) j = nI (A.2.1 j) := fun j => by rw [tf_rw_n (Ne.symm m14), tf_set_n z4]; exact hM.2.1 j
              have ek : k = A.2.2.1 := by omega
              have hv : (tf_tw (tf_u (tf_u A.1 (224 + 10 * A.1 366) A.2.2.1) ((224 + 10 * A.1 366) + 1) 0) A.2.1 ((224 + 10 * A.1 366) + 2) k) 366 = A.1 366 := by unfold tf_tw tf_u; rw [if_neg (by omega), if_neg (by omega), if_neg (by omega)]
              have hw : (tf_rw (tf_set S o 5 0) (tf_rf G o 1) (tf_tw (tf_u (tf_u A.1 (224 + 10 * A.1 366) A.2.2.1) ((224 + 10 * A.1 366) + 1) 0) A.2.1 ((224 + 10 * A.1 366) + 2) k)) (tf_rf G o 1) 366 = nI (A.1 366) := by rw [tf_rw_a, hv]
              refine tf_go hx ftX11_word 2 [] 101 [some (.ref o), some (.int (-9)), some (.int (nI A.2.2.1)), some (.int (nI (224 + 10 * A.1 366))), some (.int (nI k))] [.int (nI A.2.2.1), .int (nI k)] (tf_rw (tf_set S o 5 0) (tf_rf G o 1) (tf_tw (tf_u (tf_u A.1 (224 + 10 * A.1 366) A.2.2.1) ((224 + 10 * A.1 366) + 1) 0) A.2.1 ((224 + 10 * A.1 366) + 2) k)) rfl ⟨by decide, by decide, rfl⟩ trivial ?_
              refine tf_go hx ftX11_word 1 [true] 131 [some (.ref o), some (.int (-9)), some (.int (nI A.2.2.1)), some (.int (nI (224 + 10 * A.1 366))), some (.int (nI k))] [] (tf_rw (tf_set S o 5 0) (tf_rf G o 1) (tf_tw (tf_u (tf_u A.1 (224 + 10 * A.1 366) A.2.2.1) ((224 + 10 * A.1 366) + 1) 0) A.2.1 ((224 + 10 * A.1 366) + 2) k)) rfl ⟨by decide, by decide, rfl⟩ ⟨trivial, (tf_leT (a := A.2.2.1) (b := k) rfl rfl (by omega) (by omega) (by omega))⟩ ?_
              refine tf_go hx ftX11_word 7 [] 142 [some (.ref o), some (.int (-9)), some (.int (nI A.2.2.1)), some (.int (nI (224 + 10 * A.1 366))), some (.int (nI k))] [.int (((tf_rw (tf_set S o 5 0) (tf_rf G o 1) (tf_tw (tf_u (tf_u A.1 (224 + 10 * A.1 366) A.2.2.1) ((224 + 10 * A.1 366) + 1) 0) A.2.1 ((224 + 10 * A.1 366) + 2) k)) (tf_rf G o 1) (Int32.toNatClampNeg 366)) + 1), .int 366, .ref (tf_rf G o 1)] (tf_rw (tf_set S o 5 0) (tf_rf G o 1) (tf_tw (tf_u (tf_u A.1 (224 + 10 * A.1 366) A.2.2.1) ((224 + 10 * A.1 366) + 1) 0) A.2.1 ((224 + 10 * A.1 366) + 2) k)) rfl ⟨by decide, by decide, rfl⟩ ⟨⟨trivial, ⟨by first | assumption | rfl | decide | omega, by first | assumption | rfl | decide | omega⟩⟩, ⟨Or.inl (by first | assumption | rfl | decide | omega), by first | assumption | exact tf_in (n := 366) (rfl : (366 : Int32) = nI 366) (by first | assumption | rfl) (by omega) (by decide)⟩⟩ ?_
              rw [show (((tf_rw (tf_set S o 5 0) (tf_rf G o 1) (tf_tw (tf_u (tf_u A.1 (224 + 10 * A.1 366) A.2.2.1) ((224 + 10 * A.1 366) + 1) 0) A.2.1 ((224 + 10 * A.1 366) + 2) k)) (tf_rf G o 1) (Int32.toNatClampNeg 366)) + 1) = nI (A.1 366 + 1) from tf_add hw rfl]
              refine tf_go hx ftX11_word 1 [] 143 [some (.ref o), some (.int (-9)), some (.int (nI A.2.2.1)), some (.int (nI (224 + 10 * A.1 366))), some (.int (nI k))] [] (tf_set (tf_rw (tf_set S o 5 0) (tf_rf G o 1) (tf_tw (tf_u (tf_u A.1 (224 + 10 * A.1 366) A.2.2.1) ((224 + 10 * A.1 366) + 1) 0) A.2.1 ((224 + 10 * A.1 366) + 2) k)) (tf_rf G o 1) (Int32.toNatClampNeg 366) (nI (A.1 366 + 1))) rfl ⟨by decide, by decide, rfl⟩ ⟨trivial, ⟨by first | assumption | rfl | decide | omega, by first | assumption | exact tf_in (n := 366) (rfl : (366 : Int32) = nI 366) (by first | assumption | rfl) (by omega) (by decide)⟩⟩ ?_
              rw [show Int32.toNatClampNeg (366 : Int32) = 366 from rfl]
              rw [tf_rw_u2, ek]
              have hy : (tf_rw (tf_set S o 5 0) (tf_rf G o 1) (tf_u (tf_tw (tf_u (tf_u A.1 (224 + 10 * A.1 366) A.2.2.1) ((224 + 10 * A.1 366) + 1) 0) A.2.1 ((224 + 10 * A.1 366) + 2) A.2.2.1) 366 (A.1 366 + 1))) (tf_rf G o 1) 366 = nI (A.1 366 + 1) := by rw [tf_rw_a]; unfold tf_u; rw [if_pos rfl]
              refine tf_go hx ftX11_word 4 [] 151 [some (.ref o), some (.int (-9)), some (.int (nI A.2.2.1)), some (.int (nI (224 + 10 * A.1 366))), some (.int (nI A.2.2.1))] [.int ((tf_rw (tf_set S o 5 0) (tf_rf G o 1) (tf_u (tf_tw (tf_u (tf_u A.1 (224 + 10 * A.1 366) A.2.2.1) ((224 + 10 * A.1 366) + 1) 0) A.2.1 ((224 + 10 * A.1 366) + 2) A.2.2.1) 366 (A.1 366 + 1))) (tf_rf G o 1) (Int32.toNatClampNeg 366))] (tf_rw (tf_set S o 5 0) (tf_rf G o 1) (tf_u (tf_tw (tf_u (tf_u A.1 (224 + 10 * A.1 366) A.2.2.1) ((224 + 10 * A.1 366) + 1) 0) A.2.1 ((224 + 10 * A.1 366) + 2) A.2.2.1) 366 (A.1 366 + 1))) rfl ⟨by decide, by decide, rfl⟩ ⟨⟨trivial, ⟨by first | assumption | rfl | decide | omega, by first | assumption | rfl | decide | omega⟩⟩, ⟨Or.inl (by first | assumption | rfl | decide | omega), by first | assumption | exact tf_in (n := 366) (rfl : (366 : Int32) = nI 366) (by first | assumption | rfl) (by omega) (by decide)⟩⟩ ?_
              rw [show ((tf_rw (tf_set S o 5 0) (tf_rf G o 1) (tf_u (tf_tw (tf_u (tf_u A.1 (224 + 10 * A.1 366) A.2.2.1) ((224 + 10 * A.1 366) + 1) 0) A.2.1 ((224 + 10 * A.1 366) + 2) A.2.2.1) 366 (A.1 366 + 1))) (tf_rf G o 1) (Int32.toNatClampNeg 366)) = nI (A.1 366 + 1) from hy]
              refine tf_go hx ftX11_word 2 [] 153 [some (.ref o), some (.int (-9)), some (.int (nI A.2.2.1)), some (.int (nI (224 + 10 * A.1 366))), some (.int (nI A.2.2.1))] [.int ((nI (A.1 366 + 1)) - 1)] (tf_rw (tf_set S o 5 0) (tf_rf G o 1) (tf_u (tf_tw (tf_u (tf_u A.1 (224 + 10 * A.1 366) A.2.2.1) ((224 + 10 * A.1 366) + 1) 0) A.2.1 ((224 + 10 * A.1 366) + 2) A.2.2.1) 366 (A.1 366 + 1))) rfl ⟨by decide, by decide, rfl⟩ trivial ?_
              rw [show ((nI (A.1 366 + 1)) - 1) = nI ((A.1 366 + 1) - 1) from (tf_sub (a := (A.1 366 + 1)) (b := 1) rfl (rfl : (1 : Int32) = nI 1) (by have := hb 366; omega))]
              exact tf_ret ftX11_word hR rfl ⟨by decide, by decide⟩ rfl rfl (by rw [show A.1 366 + 1 - 1 = A.1 366 by omega]; rfl)
            | succ m ih =>
              intro k hk
              have rt : ∀ j, (tf_rw (tf_set S o 5 0) (tf_rf G o 1) (tf_tw (tf_u (tf_u A.1 (224 + 10 * A.1 366) A.2.2.1) ((224 + 10 * A.1 366) + 1) 0) A.2.1 ((224 + 10 * A.1 366) + 2) k)) (tf_rf G o 4) j = nI (A.2.1 j) := fun j => by rw [tf_rw_n (Ne.symm m14), tf_set_n z4]; exact hM.2.1 j
              have c1 : 97 ≤ A.2.1 k := by rcases fv k (by omega) with h | h; exact h.1; exact absurd rfl h.1
              refine tf_go hx ftX11_word 2 [] 101 [some (.ref o), some (.int (-9)), some (.int (nI A.2.2.1)), some (.int (nI (224 + 10 * A.1 366))), some (.int (nI k))] [.int (nI A.2.2.1), .int (nI k)] (tf_rw (tf_set S o 5 0) (tf_rf G o 1) (tf_tw (tf_u (tf_u A.1 (224 + 10 * A.1 366) A.2.2.1) ((224 + 10 * A.1 366) + 1) 0) A.2.1 ((224 + 10 * A.1 366) + 2) k)) rfl ⟨by decide, by decide, rfl⟩ trivial ?_
              refine tf_go hx ftX11_word 1 [false] 104 [some (.ref o), some (.int (-9)), some (.int (nI A.2.2.1)), some (.int (nI (224 + 10 * A.1 366))), some (.int (nI k))] [] (tf_rw (tf_set S o 5 0) (tf_rf G o 1) (tf_tw (tf_u (tf_u A.1 (224 + 10 * A.1 366) A.2.2.1) ((224 + 10 * A.1 366) + 1) 0) A.2.1 ((224 + 10 * A.1 366) + 2) k)) rfl ⟨by decide, by decide, rfl⟩ ⟨trivial, (tf_leF (a := A.2.2.1) (b := k) rfl rfl (by omega) (by omega) (by omega))⟩ ?_
              refine tf_go hx ftX11_word 7 [] 114 [some (.ref o), some (.int (-9)), some (.int (nI A.2.2.1)), some (.int (nI (224 + 10 * A.1 366))), some (.int (nI k))] [.int (((nI (224 + 10 * A.1 366)) + 2) + (nI k)), .ref (tf_rf G o 1)] (tf_rw (tf_set S o 5 0) (tf_rf G o 1) (tf_tw (tf_u (tf_u A.1 (224 + 10 * A.1 366) A.2.2.1) ((224 + 10 * A.1 366) + 1) 0) A.2.1 ((224 + 10 * A.1 366) + 2) k)) rfl ⟨by decide, by decide, rfl⟩ ⟨trivial, ⟨by first | assumption | rfl | decide | omega, by first | assumption | rfl | decide | omega⟩⟩ ?_
              rw [show (((nI (224 + 10 * A.1 366)) + 2) + (nI k)) = nI (((224 + 10 * A.1 366) + 2) + k) from (tf_add (a := ((224 + 10 * A.1 366) + 2)) (b := k) (tf_add (a := (224 + 10 * A.1 366)) (b := 2) rfl (rfl : (2 : Int32) = nI 2)) rfl)]
              refine tf_go hx ftX11_word 6 [] 124 [some (.ref o), some (.int (-9)), some (.int (nI A.2.2.1)), some (.int (nI (224 + 10 * A.1 366))), some (.int (nI k))] [.int (((tf_rw (tf_set S o 5 0) (tf_rf G o 1) (tf_tw (tf_u (tf_u A.1 (224 + 10 * A.1 366) A.2.2.1) ((224 + 10 * A.1 366) + 1) 0) A.2.1 ((224 + 10 * A.1 366) + 2) k)) (tf_rf G o 4) (Int32.toNatClampNeg (nI k))) - 97), .int (nI (((224 + 10 * A.1 366) + 2) + k)), .ref (tf_rf G o 1)] (tf_rw (tf_set S o 5 0) (tf_rf G o 1) (tf_tw (tf_u (tf_u A.1 (224 + 10 * A.1 366) A.2.2.1) ((224 + 10 * A.1 366) + 1) 0) A.2.1 ((224 + 10 * A.1 366) + 2) k)) rfl ⟨by decide, by decide, rfl⟩ ⟨⟨trivial, ⟨by first | assumption | rfl | decide | omega, by first | assumption | rfl | decide | omega⟩⟩, ⟨Or.inl (by first | assumption | rfl | decide | omega), by first | assumption | exact tf_in (n := k) rfl (by first | assumption | rfl) (by omega) (by decide)⟩⟩ ?_
              rw [show (((tf_rw (tf_set S o 5 0) (tf_rf G o 1) (tf_tw (tf_u (tf_u A.1 (224 + 10 * A.1 366) A.2.2.1) ((224 + 10 * A.1 366) + 1) 0) A.2.1 ((224 + 10 * A.1 366) + 2) k)) (tf_rf G o 4) (Int32.toNatClampNeg (nI k))) - 97) = nI ((A.2.1 k) - 97) from (tf_sub (a := (A.2.1 k)) (b := 97) (tf_rd rt rfl (by omega)) (rfl : (97 : Int32) = nI 97) (by have := hA4 k; omega))]
              have bv : tf_tv2 (A.2.1 k) = A.2.1 k - 97 := by unfold tf_tv2; rw [if_neg (by rcases fv k (by omega) with h | h; omega; exact absurd rfl h.1)]
              refine tf_go hx ftX11_word 1 [] 125 [some (.ref o), some (.int (-9)), some (.int (nI A.2.2.1)), some (.int (nI (224 + 10 * A.1 366))), some (.int (nI k))] [] (tf_set (tf_rw (tf_set S o 5 0) (tf_rf G o 1) (tf_tw (tf_u (tf_u A.1 (224 + 10 * A.1 366) A.2.2.1) ((224 + 10 * A.1 366) + 1) 0) A.2.1 ((224 + 10 * A.1 366) + 2) k)) (tf_rf G o 1) (Int32.toNatClampNeg (nI (((224 + 10 * A.1 366) + 2) + k))) (nI ((A.2.1 k) - 97))) rfl ⟨by decide, by decide, rfl⟩ ⟨trivial, ⟨by first | assumption | rfl | decide | omega, by first | assumption | exact tf_in (n := (((224 + 10 * A.1 366) + 2) + k)) rfl (by first | assumption | rfl) (by have := hb 366; omega) (by decide)⟩⟩ ?_
              rw [show Int32.toNatClampNeg (nI (((224 + 10 * A.1 366) + 2) + k)) = (((224 + 10 * A.1 366) + 2) + k) from tf_cln rfl (by have := hb 366; omega)]
              rw [tf_rw_u2]
              have bu := @tf_tw_s (tf_u (tf_u A.1 (224 + 10 * A.1 366) A.2.2.1) ((224 + 10 * A.1 366) + 1) 0) A.2.1 ((224 + 10 * A.1 366) + 2) k
              rw [bv] at bu
              rw [bu]
              refine tf_go hx ftX11_word 2 [] 98 [some (.ref o), some (.int (-9)), some (.int (nI A.2.2.1)), some (.int (nI (224 + 10 * A.1 366))), some (.int ((nI k) + 1))] [] (tf_rw (tf_set S o 5 0) (tf_rf G o 1) (tf_tw (tf_u (tf_u A.1 (224 + 10 * A.1 366) A.2.2.1) ((224 + 10 * A.1 366) + 1) 0) A.2.1 ((224 + 10 * A.1 366) + 2) (k + 1))) rfl ⟨by decide, by decide, rfl⟩ trivial ?_
              rw [show ((nI k) + 1) = nI (k + 1) from (tf_add (a := k) (b := 1) rfl (rfl : (1 : Int32) = nI 1))]
              exact ih (k + 1) (by omega)
          have h0 := loop A.2.2.1 0 (by omega)
          rw [tf_tw_0] at h0
          exact h0

