def tX11_changes : tf_T := [(0, .aload_n 0, 1, 0, 0),
  (1, .getfield 13, 4, 0, 0),
  (4, .bipush 30, 6, 0, 30),
  (6, .iload_n 1, 7, 0, 0),
  (7, .imul, 8, 0, 0),
  (8, .iload_n 2, 9, 0, 0),
  (9, .iadd, 10, 0, 0),
  (10, .iaload, 11, 0, 0),
  (11, .istore 4, 13, 0, 0),
  (13, .aload_n 0, 14, 0, 0),
  (14, .getfield 13, 17, 0, 0),
  (17, .bipush 30, 19, 0, 30),
  (19, .iload_n 1, 20, 0, 0),
  (20, .imul, 21, 0, 0),
  (21, .iload_n 2, 22, 0, 0),
  (22, .iadd, 23, 0, 0),
  (23, .aload_n 0, 24, 0, 0),
  (24, .getfield 13, 27, 0, 0),
  (27, .bipush 30, 29, 0, 30),
  (29, .iload_n 1, 30, 0, 0),
  (30, .imul, 31, 0, 0),
  (31, .iload_n 3, 32, 0, 0),
  (32, .iadd, 33, 0, 0),
  (33, .iaload, 34, 0, 0),
  (34, .iastore, 35, 0, 0),
  (35, .aload_n 0, 36, 0, 0),
  (36, .getfield 13, 39, 0, 0),
  (39, .bipush 30, 41, 0, 30),
  (41, .iload_n 1, 42, 0, 0),
  (42, .imul, 43, 0, 0),
  (43, .iload_n 3, 44, 0, 0),
  (44, .iadd, 45, 0, 0),
  (45, .iload 4, 47, 0, 0),
  (47, .iastore, 48, 0, 0),
  (48, .return_, 49, 0, 0)]
set_option maxRecDepth 100000 in
theorem okX11_changes : tf_okT cX11_changes tX11_changes := by unfold tf_okT; decide +kernel
theorem ftX11_changes : 1 ≤ 1 ∧ tf_okF RX11 fX11 ∧ tf_okT cX11_changes tX11_changes := ⟨by decide, okfX11, okX11_changes⟩
def mX11_changes : tf_M := (yX11_changes, cX11_changes, 5, none)

def tX11_betterOf : tf_T := [(0, .bipush (-9), 2, 0, (-9)),
  (2, .istore_n 3, 3, 0, 0),
  (3, .aload_n 0, 4, 0, 0),
  (4, .iload_n 1, 5, 0, 0),
  (5, .iload_n 2, 6, 0, 0),
  (6, .iconst 0, 7, 0, 0),
  (7, .invokevirtual 92, 10, 0, 0),
  (10, .istore 4, 12, 0, 0),
  (12, .iconst 0, 13, 0, 0),
  (13, .istore 5, 15, 0, 0),
  (15, .iload 5, 17, 0, 0),
  (17, .bipush 30, 19, 0, 30),
  (19, .if_icmp .ge 108, 22, 127, 0),
  (22, .iload 5, 24, 0, 0),
  (24, .iconst 1, 25, 0, 1),
  (25, .iadd, 26, 0, 0),
  (26, .istore 6, 28, 0, 0),
  (28, .iload 6, 30, 0, 0),
  (30, .bipush 30, 32, 0, 30),
  (32, .if_icmp .ge 89, 35, 121, 0),
  (35, .aload_n 0, 36, 0, 0),
  (36, .getfield 13, 39, 0, 0),
  (39, .bipush 30, 41, 0, 30),
  (41, .iload_n 2, 42, 0, 0),
  (42, .imul, 43, 0, 0),
  (43, .iload 5, 45, 0, 0),
  (45, .iadd, 46, 0, 0),
  (46, .iaload, 47, 0, 0),
  (47, .aload_n 0, 48, 0, 0),
  (48, .getfield 13, 51, 0, 0),
  (51, .bipush 30, 53, 0, 30),
  (53, .iload_n 2, 54, 0, 0),
  (54, .imul, 55, 0, 0),
  (55, .iload 6, 57, 0, 0),
  (57, .iadd, 58, 0, 0),
  (58, .iaload, 59, 0, 0),
  (59, .if_icmp .ne 6, 62, 65, 0),
  (62, .goto 53, 65, 115, 0),
  (65, .aload_n 0, 66, 0, 0),
  (66, .iload_n 2, 67, 0, 0),
  (67, .iload 5, 69, 0, 0),
  (69, .iload 6, 71, 0, 0),
  (71, .invokevirtual 119, 74, 0, 0),
  (74, .aload_n 0, 75, 0, 0),
  (75, .iload_n 1, 76, 0, 0),
  (76, .iload_n 2, 77, 0, 0),
  (77, .iconst 0, 78, 0, 0),
  (78, .invokevirtual 92, 81, 0, 0),
  (81, .istore 7, 83, 0, 0),
  (83, .aload_n 0, 84, 0, 0),
  (84, .iload_n 2, 85, 0, 0),
  (85, .iload 5, 87, 0, 0),
  (87, .iload 6, 89, 0, 0),
  (89, .invokevirtual 119, 92, 0, 0),
  (92, .iload 7, 94, 0, 0),
  (94, .iload 4, 96, 0, 0),
  (96, .if_icmp .lt 6, 99, 102, 0),
  (99, .goto 16, 102, 115, 0),
  (102, .bipush 100, 104, 0, 100),
  (104, .iload 5, 106, 0, 0),
  (106, .imul, 107, 0, 0),
  (107, .iload 6, 109, 0, 0),
  (109, .iadd, 110, 0, 0),
  (110, .istore_n 3, 111, 0, 0),
  (111, .iload 7, 113, 0, 0),
  (113, .istore 4, 115, 0, 0),
  (115, .iinc 6 1, 118, 0, 1),
  (118, .goto (-90), 121, 28, 0),
  (121, .iinc 5 1, 124, 0, 1),
  (124, .goto (-109), 127, 15, 0),
  (127, .iload_n 3, 128, 0, 0),
  (128, .ireturn, 129, 0, 0)]
set_option maxRecDepth 100000 in
theorem okX11_betterOf : tf_okT cX11_betterOf tX11_betterOf := by unfold tf_okT; decide +kernel
theorem ftX11_betterOf : 1 ≤ 6 ∧ tf_okF RX11 fX11 ∧ tf_okT cX11_betterOf tX11_betterOf := ⟨by decide, okfX11, okX11_betterOf⟩
def mX11_betterOf : tf_M := (yX11_betterOf, cX11_betterOf, 8, (some .int))

def tX11_farOf : tf_T := [(0, .iconst 0, 1, 0, 0),
  (1, .istore_n 3, 2, 0, 0),
  (2, .iconst 0, 3, 0, 0),
  (3, .istore 4, 5, 0, 0),
  (5, .iload 4, 7, 0, 0),
  (7, .aload_n 0, 8, 0, 0),
  (8, .getfield 13, 11, 0, 0),
  (11, .sipush 367, 14, 0, 367),
  (14, .iaload, 15, 0, 0),
  (15, .if_icmp .ge 49, 18, 64, 0),
  (18, .iload 4, 20, 0, 0),
  (20, .aload_n 0, 21, 0, 0),
  (21, .getfield 13, 24, 0, 0),
  (24, .sipush 364, 27, 0, 364),
  (27, .iaload, 28, 0, 0),
  (28, .if_icmp .ge 36, 31, 64, 0),
  (31, .iload_n 3, 32, 0, 0),
  (32, .aload_n 0, 33, 0, 0),
  (33, .getfield 13, 36, 0, 0),
  (36, .sipush 324, 39, 0, 324),
  (39, .iload 4, 41, 0, 0),
  (41, .iadd, 42, 0, 0),
  (42, .iaload, 43, 0, 0),
  (43, .aload_n 0, 44, 0, 0),
  (44, .iload_n 1, 45, 0, 0),
  (45, .iload_n 2, 46, 0, 0),
  (46, .iload 4, 48, 0, 0),
  (48, .iconst 0, 49, 0, 0),
  (49, .invokevirtual 89, 52, 0, 0),
  (52, .isub, 53, 0, 0),
  (53, .invokestatic 69, 56, 0, 0),
  (56, .iadd, 57, 0, 0),
  (57, .istore_n 3, 58, 0, 0),
  (58, .iinc 4 1, 61, 0, 1),
  (61, .goto (-56), 64, 5, 0),
  (64, .iload_n 3, 65, 0, 0),
  (65, .ireturn, 66, 0, 0)]
set_option maxRecDepth 100000 in
theorem okX11_farOf : tf_okT cX11_farOf tX11_farOf := by unfold tf_okT; decide +kernel
theorem ftX11_farOf : 1 ≤ 5 ∧ tf_okF RX11 fX11 ∧ tf_okT cX11_farOf tX11_farOf := ⟨by decide, okfX11, okX11_farOf⟩
def mX11_farOf : tf_M := (yX11_farOf, cX11_farOf, 5, (some .int))

def tX11_acheAt : tf_T := [(0, .aload_n 0, 1, 0, 0),
  (1, .iload_n 1, 2, 0, 0),
  (2, .aload_n 0, 3, 0, 0),
  (3, .getfield 13, 6, 0, 0),
  (6, .sipush 144, 9, 0, 144),
  (9, .iload_n 2, 10, 0, 0),
  (10, .iadd, 11, 0, 0),
  (11, .iaload, 12, 0, 0),
  (12, .invokevirtual 51, 15, 0, 0),
  (15, .istore_n 3, 16, 0, 0),
  (16, .iload_n 3, 17, 0, 0),
  (17, .ifCond .ge 5, 20, 22, 0),
  (20, .iconst 0, 21, 0, 0),
  (21, .ireturn, 22, 0, 0),
  (22, .iload_n 2, 23, 0, 0),
  (23, .ifCond .ne 8, 26, 31, 0),
  (26, .bipush (-9), 28, 0, (-9)),
  (28, .goto 20, 31, 48, 0),
  (31, .aload_n 0, 32, 0, 0),
  (32, .iload_n 1, 33, 0, 0),
  (33, .aload_n 0, 34, 0, 0),
  (34, .getfield 13, 37, 0, 0),
  (37, .sipush 144, 40, 0, 144),
  (40, .iload_n 2, 41, 0, 0),
  (41, .iadd, 42, 0, 0),
  (42, .iconst 1, 43, 0, 1),
  (43, .isub, 44, 0, 0),
  (44, .iaload, 45, 0, 0),
  (45, .invokevirtual 51, 48, 0, 0),
  (48, .istore 4, 50, 0, 0),
  (50, .iload 4, 52, 0, 0),
  (52, .ifCond .lt 27, 55, 79, 0),
  (55, .iload 4, 57, 0, 0),
  (57, .iload_n 3, 58, 0, 0),
  (58, .if_icmp .eq 21, 61, 79, 0),
  (61, .iload 4, 63, 0, 0),
  (63, .iconst 0, 64, 0, 0),
  (64, .invokestatic 58, 67, 0, 0),
  (67, .iload_n 3, 68, 0, 0),
  (68, .iconst 0, 69, 0, 0),
  (69, .invokestatic 58, 72, 0, 0),
  (72, .if_icmp .ne 7, 75, 79, 0),
  (75, .iconst 3, 76, 0, 3),
  (76, .goto 4, 79, 80, 0),
  (79, .iconst 1, 80, 0, 1),
  (80, .ireturn, 81, 0, 0)]
set_option maxRecDepth 100000 in
theorem okX11_acheAt : tf_okT cX11_acheAt tX11_acheAt := by unfold tf_okT; decide +kernel
theorem ftX11_acheAt : 1 ≤ 2 ∧ tf_okF RX11 fX11 ∧ tf_okT cX11_acheAt tX11_acheAt := ⟨by decide, okfX11, okX11_acheAt⟩
def mX11_acheAt : tf_M := (yX11_acheAt, cX11_acheAt, 5, (some .int))

def tX11_paceOf : tf_T := [(0, .aload_n 0, 1, 0, 0),
  (1, .iload_n 1, 2, 0, 0),
  (2, .iload_n 2, 3, 0, 0),
  (3, .iconst 0, 4, 0, 0),
  (4, .invokevirtual 92, 7, 0, 0),
  (7, .bipush 10, 9, 0, 10),
  (9, .imul, 10, 0, 0),
  (10, .bipush 10, 12, 0, 10),
  (12, .iload_n 3, 13, 0, 0),
  (13, .iadd, 14, 0, 0),
  (14, .idiv, 15, 0, 0),
  (15, .aload_n 0, 16, 0, 0),
  (16, .getfield 13, 19, 0, 0),
  (19, .sipush 364, 22, 0, 364),
  (22, .iaload, 23, 0, 0),
  (23, .iload_n 3, 24, 0, 0),
  (24, .imul, 25, 0, 0),
  (25, .iload_n 3, 26, 0, 0),
  (26, .imul, 27, 0, 0),
  (27, .bipush 100, 29, 0, 100),
  (29, .idiv, 30, 0, 0),
  (30, .iload 4, 32, 0, 0),
  (32, .imul, 33, 0, 0),
  (33, .iadd, 34, 0, 0),
  (34, .ireturn, 35, 0, 0)]
set_option maxRecDepth 100000 in
theorem okX11_paceOf : tf_okT cX11_paceOf tX11_paceOf := by unfold tf_okT; decide +kernel
theorem ftX11_paceOf : 1 ≤ 6 ∧ tf_okF RX11 fX11 ∧ tf_okT cX11_paceOf tX11_paceOf := ⟨by decide, okfX11, okX11_paceOf⟩
def mX11_paceOf : tf_M := (yX11_paceOf, cX11_paceOf, 5, (some .int))

set_option maxRecDepth 100000 in
theorem lX11_92 : tf_okV RX11 92 3 8 mX11_timeOf := by unfold tf_okV tf_okL; decide +kernel

set_option maxRecDepth 100000 in
theorem lX11_119 : tf_okV RX11 119 3 8 mX11_changes := by unfold tf_okV tf_okL; decide +kernel

set_option maxHeartbeats 1000000 in
theorem m_changes {G : tf_G} {S : tf_Sg} {o : Nat} {f : Nat → Nat} (b u w : Nat) (ho : tf_mo G o) (hf : tf_sf G S o f) (hbb : b < 4) (hx0 : u < 30) (hy0 : w < 30) : tf_Fn mX11_changes 1 0 0 G S [.ref o, .int (nI b), .int (nI u), .int (nI w)] G (tf_rw S (tf_rf G o 1) (tf_ex f b u w)) none := by
  obtain ⟨h1, ⟨r0, t0, n0⟩, ⟨r1, t1, n1⟩, ⟨r2, t2, n2⟩, ⟨r4, t4, n4⟩⟩ := id ho
  obtain ⟨hs, hb⟩ := id hf
  refine tf_Fn_of (own := RX11) false ⟨by decide, rfl, by decide⟩ (Nat.le_of_ble_eq_true rfl) trivial (fun x hx hR => ?_)
  show tf_K x 0 0 G S 0 [some (.ref o), some (.int (nI b)), some (.int (nI u)), some (.int (nI w)), none] []
  refine tf_go hx ftX11_changes 9 [] 13 [some (.ref o), some (.int (nI b)), some (.int (nI u)), some (.int (nI w)), some (.int (S (tf_rf G o 1) (Int32.toNatClampNeg ((30 * (nI b)) + (nI u)))))] [] S rfl ⟨by decide, by decide, rfl⟩ ⟨⟨trivial, ⟨by first | assumption | rfl | decide | omega, by first | assumption | rfl | decide | omega⟩⟩, ⟨Or.inl (by first | assumption | rfl | decide | omega), by first | assumption | exact tf_in (n := ((30 * b) + u)) (tf_add (a := (30 * b)) (b := u) (tf_mul (a := 30) (b := b) (rfl : (30 : Int32) = nI 30) rfl) rfl) (by first | assumption | rfl) (by omega) (by decide)⟩⟩ ?_
  rw [show (S (tf_rf G o 1) (Int32.toNatClampNeg ((30 * (nI b)) + (nI u)))) = nI (f ((30 * b) + u)) from (tf_rd hs (tf_add (a := (30 * b)) (b := u) (tf_mul (a := 30) (b := b) (rfl : (30 : Int32) = nI 30) rfl) rfl) (by omega))]
  refine tf_go hx ftX11_changes 15 [] 34 [some (.ref o), some (.int (nI b)), some (.int (nI u)), some (.int (nI w)), some (.int (nI (f ((30 * b) + u))))] [.int (S (tf_rf G o 1) (Int32.toNatClampNeg ((30 * (nI b)) + (nI w)))), .int ((30 * (nI b)) + (nI u)), .ref (tf_rf G o 1)] S rfl ⟨by decide, by decide, rfl⟩ ⟨⟨⟨trivial, ⟨by first | assumption | rfl | decide | omega, by first | assumption | rfl | decide | omega⟩⟩, ⟨by first | assumption | rfl | decide | omega, by first | assumption | rfl | decide | omega⟩⟩, ⟨Or.inl (by first | assumption | rfl | decide | omega), by first | assumption | exact tf_in (n := ((30 * b) + w)) (tf_add (a := (30 * b)) (b := w) (tf_mul (a := 30) (b := b) (rfl : (30 : Int32) = nI 30) rfl) rfl) (by first | assumption | rfl) (by omega) (by decide)⟩⟩ ?_
  rw [show (S (tf_rf G o 1) (Int32.toNatClampNeg ((30 * (nI b)) + (nI w)))) = nI (f ((30 * b) + w)) from (tf_rd hs (tf_add (a := (30 * b)) (b := w) (tf_mul (a := 30) (b := b) (rfl : (30 : Int32) = nI 30) rfl) rfl) (by omega))]
  rw [show ((30 * (nI b)) + (nI u)) = nI ((30 * b) + u) from (tf_add (a := (30 * b)) (b := u) (tf_mul (a := 30) (b := b) (rfl : (30 : Int32) = nI 30) rfl) rfl)]
  refine tf_go hx ftX11_changes 1 [] 35 [some (.ref o), some (.int (nI b)), some (.int (nI u)), some (.int (nI w)), some (.int (nI (f ((30 * b) + u))))] [] (tf_set S (tf_rf G o 1) (Int32.toNatClampNeg (nI ((30 * b) + u))) (nI (f ((30 * b) + w)))) rfl ⟨by decide, by decide, rfl⟩ ⟨trivial, ⟨by first | assumption | rfl | decide | omega, by first | assumption | exact tf_in (n := ((30 * b) + u)) rfl (by first | assumption | rfl) (by omega) (by decide)⟩⟩ ?_
  rw [show Int32.toNatClampNeg (nI ((30 * b) + u)) = ((30 * b) + u) from tf_cln rfl (by omega)]
  rw [tf_rw_u hs]
  refine tf_go hx ftX11_changes 9 [] 48 [some (.ref o), some (.int (nI b)), some (.int (nI u)), some (.int (nI w)), some (.int (nI (f ((30 * b) + u))))] [] (tf_set (tf_rw S (tf_rf G o 1) (tf_u f ((30 * b) + u) (f ((30 * b) + w)))) (tf_rf G o 1) (Int32.toNatClampNeg ((30 * (nI b)) + (nI w))) (nI (f ((30 * b) + u)))) rfl ⟨by decide, by decide, rfl⟩ ⟨⟨trivial, ⟨by first | assumption | rfl | decide | omega, by first | assumption | rfl | decide | omega⟩⟩, ⟨by first | assumption | rfl | decide | omega, by first | assumption | exact tf_in (n := ((30 * b) + w)) (tf_add (a := (30 * b)) (b := w) (tf_mul (a := 30) (b := b) (rfl : (30 : Int32) = nI 30) rfl) rfl) (by first | assumption | rfl) (by omega) (by decide)⟩⟩ ?_
  rw [show Int32.toNatClampNeg ((30 * (nI b)) + (nI w)) = ((30 * b) + w) from tf_cln (tf_add (a := (30 * b)) (b := w) (tf_mul (a := 30) (b := b) (rfl : (30 : Int32) = nI 30) rfl) rfl) (by omega)]
  rw [tf_rw_u2]
  exact tf_ret ftX11_changes hR rfl ⟨by decide, by decide⟩ rfl rfl rfl

set_option maxHeartbeats 1000000 in
theorem m_betterOf {G : tf_G} {S : tf_Sg} {o : Nat} {f : Nat → Nat} (h b : Nat) (ho : tf_mo G o) (hf : tf_sf G S o f) (hg : tf_gd f) (hh : h < 4) (hbb : b < 4) : tf_Fn mX11_betterOf 6 0 0 G S [.ref o, .int (nI h), .int (nI b)] G S (some (.int (tf_on 3000 (tf_be f h b)))) := by
  obtain ⟨h1, ⟨r0, t0, n0⟩, ⟨r1, t1, n1⟩, ⟨r2, t2, n2⟩, ⟨r4, t4, n4⟩⟩ := id ho
  obtain ⟨hs, hb⟩ := id hf
  obtain ⟨⟨g1, g2, g3, g4⟩, g5, g6, g7, g8, g9, g10, g11⟩ := id hg
  refine tf_Fn_of (own := RX11) false ⟨by decide, rfl, by decide⟩ (Nat.le_of_ble_eq_true rfl) trivial (fun x hx hR => ?_)
  show tf_K x 0 0 G S 0 [some (.ref o), some (.int (nI h)), some (.int (nI b)), none, none, none, none, none] []
  unfold tf_be at hR
  refine tf_go hx ftX11_betterOf 6 [] 7 [some (.ref o), some (.int (nI h)), some (.int (nI b)), some (.int (-9)), none, none, none, none] [.int 0, .int (nI b), .int (nI h), .ref o] S rfl ⟨by decide, by decide, rfl⟩ trivial ?_
  refine tf_cV hx ftX11_betterOf (nx := 10) (As := [.int (nI h), .int (nI b), .int 0]) (rest := []) (st2 := [.int (nI (tf_tm f h b 0))]) (m_timeOf h b 0 ho hf hg hh hbb (by decide)) rfl lX11_92 (by first | assumption | rfl | decide) rfl ⟨rfl, by decide, by decide, by decide, rfl, rfl⟩ ?_
  have tmb : ∀ F, tf_gd F → tf_tm F h b 0 ≤ 480000 := fun F hF => tf_tm_le hF hh
  refine tf_go hx ftX11_betterOf 3 [] 15 [some (.ref o), some (.int (nI h)), some (.int (nI b)), some (.int (-9)), some (.int (nI (tf_tm f h b 0))), some (.int 0), none, none] [] S rfl ⟨by decide, by decide, rfl⟩ trivial ?_
  have t0 := tmb f hg
  refine tf_fgt [some (.ref o), some (.int (nI h)), some (.int (nI b)), some (.int (-9)), some (.int (nI (tf_tm f h b 0))), some (.int 0), none, none] (by simp [tf_lss]) ?_
  have loop : ∀ (m k : Nat) (q : Nat × Nat), k + m = 30 → ((tf_b1 f h b m k q) = tf_b1 f h b 30 0 (3000, tf_tm f h b 0)) → (q.2 ≤ 480000) → (q.1 = 3000 ∨ q.1 < 3000) → tf_K x 0 0 G S 15 [some (.ref o), some (.int (nI h)), some (.int (nI b)), some (.int (tf_on 3000 q.1)), some (.int (nI q.2)), some (.int (nI k)), none, none] [] := by
    intro m
    induction m with
    | zero =>
      intro k q hk he hq2 hq1
      refine tf_go hx ftX11_betterOf 2 [] 19 [some (.ref o), some (.int (nI h)), some (.int (nI b)), some (.int (tf_on 3000 q.1)), some (.int (nI q.2)), some (.int (nI k)), none, none] [.int 30, .int (nI k)] S rfl ⟨by decide, by decide, rfl⟩ trivial ?_
      refine tf_go hx ftX11_betterOf 2 [true] 128 [some (.ref o), some (.int (nI h)), some (.int (nI b)), some (.int (tf_on 3000 q.1)), some (.int (nI q.2)), some (.int (nI k)), none, none] [.int (tf_on 3000 q.1)] S rfl ⟨by decide, by decide, rfl⟩ ⟨trivial, (tf_leT (a := 30) (b := k) (rfl : (30 : Int32) = nI 30) rfl (by omega) (by omega) (by omega))⟩ ?_
      exact tf_ret ftX11_betterOf hR rfl ⟨by decide, by decide⟩ rfl rfl (by rw [← he]; rfl)
    | succ m ih =>
      intro k q hk he hq2 hq1
      refine tf_go hx ftX11_betterOf 2 [] 19 [some (.ref o), some (.int (nI h)), some (.int (nI b)), some (.int (tf_on 3000 q.1)), some (.int (nI q.2)), some (.int (nI k)), none, none] [.int 30, .int (nI k)] S rfl ⟨by decide, by decide, rfl⟩ trivial ?_
      refine tf_go hx ftX11_betterOf 5 [false] 28 [some (.ref o), some (.int (nI h)), some (.int (nI b)), some (.int (tf_on 3000 q.1)), some (.int (nI q.2)), some (.int (nI k)), some (.int ((nI k) + 1)), none] [] S rfl ⟨by decide, by decide, rfl⟩ ⟨trivial, (tf_leF (a := 30) (b := k) (rfl : (30 : Int32) = nI 30) rfl (by omega) (by omega) (by omega))⟩ ?_
      rw [show ((nI k) + 1) = nI (k + 1) from (tf_add (a := k) (b := 1) rfl (rfl : (1 : Int32) = nI 1))]
      rw [tf_b1_s] at he
      have inner : ∀ (i j : Nat) (r : Nat × Nat), j + i = 30 → tf_b2 f h b k i j r = tf_b2 f h b k (30 - (k + 1)) (k + 1) q → k < j → r.2 ≤ 480000 → (r.1 = 3000 ∨ r.1 < 3000) → tf_K x 0 0 G S 28 [some (.ref o), some (.int (nI h)), some (.int (nI b)), some (.int (tf_on 3000 r.1)), some (.int (nI r.2)), some (.int (nI k)), some (.int (nI j)), none] [] := by
        intro i
        induction i with
        | zero =>
          intro j r hj hr hkj hr2 hr1
          refine tf_go hx ftX11_betterOf 2 [] 32 [some (.ref o), some (.int (nI h)), some (.int (nI b)), some (.int (tf_on 3000 r.1)), some (.int (nI r.2)), some (.int (nI k)), some (.int (nI j)), none] [.int 30, .int (nI j)] S rfl ⟨by decide, by decide, rfl⟩ trivial ?_
          refine tf_go hx ftX11_betterOf 3 [true] 15 [some (.ref o), some (.int (nI h)), some (.int (nI b)), some (.int (tf_on 3000 r.1)), some (.int (nI r.2)), some (.int ((nI k) + 1)), some (.int (nI j)), none] [] S rfl ⟨by decide, by decide, rfl⟩ ⟨trivial, (tf_leT (a := 30) (b := j) (rfl : (30 : Int32) = nI 30) rfl (by omega) (by omega) (by omega))⟩ ?_
          rw [show ((nI k) + 1) = nI (k + 1) from (tf_add (a := k) (b := 1) rfl (rfl : (1 : Int32) = nI 1))]
          refine tf_fgt [some (.ref o), some (.int (nI h)), some (.int (nI b)), some (.int (tf_on 3000 r.1)), some (.int (nI r.2)), some (.int (nI (k + 1))), none, none] (by simp [tf_lss]) ?_
          exact ih (k + 1) r (by omega) (by rw [← he, ← hr]; rfl) hr2 hr1
        | succ i ihj =>
          intro j r hj hr hkj hr2 hr1
          rw [tf_b2_s] at hr
          refine tf_go hx ftX11_betterOf 2 [] 32 [some (.ref o), some (.int (nI h)), some (.int (nI b)), some (.int (tf_on 3000 r.1)), some (.int (nI r.2)), some (.int (nI k)), some (.int (nI j)), none] [.int 30, .int (nI j)] S rfl ⟨by decide, by decide, rfl⟩ trivial ?_
          refine tf_go hx ftX11_betterOf 1 [false] 35 [some (.ref o), some (.int (nI h)), some (.int (nI b)), some (.int (tf_on 3000 r.1)), some (.int (nI r.2)), some (.int (nI k)), some (.int (nI j)), none] [] S rfl ⟨by decide, by decide, rfl⟩ ⟨trivial, (tf_leF (a := 30) (b := j) (rfl : (30 : Int32) = nI 30) rfl (by omega) (by omega) (by omega))⟩ ?_
          refine tf_go hx ftX11_betterOf 16 [] 59 [some (.ref o), some (.int (nI h)), some (.int (nI b)), some (.int (tf_on 3000 r.1)), some (.int (nI r.2)), some (.int (nI k)), some (.int (nI j)), none] [.int (S (tf_rf G o 1) (Int32.toNatClampNeg ((30 * (nI b)) + (nI j)))), .int (S (tf_rf G o 1) (Int32.toNatClampNeg ((30 * (nI b)) + (nI k))))] S rfl ⟨by decide, by decide, rfl⟩ ⟨⟨⟨⟨trivial, ⟨by first | assumption | rfl | decide | omega, by first | assumption | rfl | decide | omega⟩⟩, ⟨Or.inl (by first | assumption | rfl | decide | omega), by first | assumption | exact tf_in (n := ((30 * b) + k)) (tf_add (a := (30 * b)) (b := k) (tf_mul (a := 30) (b := b) (rfl : (30 : Int32) = nI 30) rfl) rfl) (by first | assumption | rfl) (by omega) (by decide)⟩⟩, ⟨by first | assumption | rfl | decide | omega, by first | assumption | rfl | decide | omega⟩⟩, ⟨Or.inl (by first | assumption | rfl | decide | omega), by first | assumption | exact tf_in (n := ((30 * b) + j)) (tf_add (a := (30 * b)) (b := j) (tf_mul (a := 30) (b := b) (rfl : (30 : Int32) = nI 30) rfl) rfl) (by first | assumption | rfl) (by omega) (by decide)⟩⟩ ?_
          rw [show (S (tf_rf G o 1) (Int32.toNatClampNeg ((30 * (nI b)) + (nI j)))) = nI (f ((30 * b) + j)) from (tf_rd hs (tf_add (a := (30 * b)) (b := j) (tf_mul (a := 30) (b := b) (rfl : (30 : Int32) = nI 30) rfl) rfl) (by omega))]
          rw [show (S (tf_rf G o 1) (Int32.toNatClampNeg ((30 * (nI b)) + (nI k)))) = nI (f ((30 * b) + k)) from (tf_rd hs (tf_add (a := (30 * b)) (b := k) (tf_mul (a := 30) (b := b) (rfl : (30 : Int32) = nI 30) rfl) rfl) (by omega))]
          by_cases d1 : f (30 * b + k) = f (30 * b + j)
          · rw [if_pos d1] at hr
            refine tf_go hx ftX11_betterOf 4 [false] 28 [some (.ref o), some (.int (nI h)), some (.int (nI b)), some (.int (tf_on 3000 r.1)), some (.int (nI r.2)), some (.int (nI k)), some (.int ((nI j) + 1)), none] [] S rfl ⟨by decide, by decide, rfl⟩ ⟨trivial, (tf_neF (a := (f ((30 * b) + k))) (b := (f ((30 * b) + j))) rfl rfl (by have := hb ((30 * b) + k); have := hb ((30 * b) + j); omega))⟩ ?_
            rw [show ((nI j) + 1) = nI (j + 1) from (tf_add (a := j) (b := 1) rfl (rfl : (1 : Int32) = nI 1))]
            exact ihj (j + 1) r (by omega) hr (by omega) hr2 hr1
          · rw [if_neg d1] at hr
            refine tf_go hx ftX11_betterOf 1 [true] 65 [some (.ref o), some (.int (nI h)), some (.int (nI b)), some (.int (tf_on 3000 r.1)), some (.int (nI r.2)), some (.int (nI k)), some (.int (nI j)), none] [] S rfl ⟨by decide, by decide, rfl⟩ ⟨trivial, (tf_eqF (a := (f ((30 * b) + k))) (b := (f ((30 * b) + j))) rfl rfl (by have := hb ((30 * b) + k); have := hb ((30 * b) + j); omega) (by have := hb ((30 * b) + k); have := hb ((30 * b) + j); omega) (by have := hb ((30 * b) + k); have := hb ((30 * b) + j); omega))⟩ ?_
            refine tf_go hx ftX11_betterOf 4 [] 71 [some (.ref o), some (.int (nI h)), some (.int (nI b)), some (.int (tf_on 3000 r.1)), some (.int (nI r.2)), some (.int (nI k)), some (.int (nI j)), none] [.int (nI j), .int (nI k), .int (nI b), .ref o] S rfl ⟨by decide, by decide, rfl⟩ trivial ?_
            have hx2 := tf_ex_gd hg (x := k) (y := j) hbb (by omega) (by omega)
            have hsf : tf_sf G (tf_rw S (tf_rf G o 1) (tf_ex f b k j)) o (tf_ex f b k j) := tf_sf_rw (tf_ex_le hb)
            refine tf_cV hx ftX11_betterOf (nx := 74) (As := [.int (nI b), .int (nI k), .int (nI j)]) (rest := []) (st2 := []) (m_changes b k j ho hf hbb (by omega) (by omega)) rfl lX11_119 (by first | assumption | rfl | decide) rfl ⟨rfl, by decide, by decide, by decide, rfl, rfl⟩ ?_
            refine tf_go hx ftX11_betterOf 4 [] 78 [some (.ref o), some (.int (nI h)), some (.int (nI b)), some (.int (tf_on 3000 r.1)), some (.int (nI r.2)), some (.int (nI k)), some (.int (nI j)), none] [.int 0, .int (nI b), .int (nI h), .ref o] (tf_rw S (tf_rf G o 1) (tf_ex f b k j)) rfl ⟨by decide, by decide, rfl⟩ trivial ?_
            refine tf_cV hx ftX11_betterOf (nx := 81) (As := [.int (nI h), .int (nI b), .int 0]) (rest := []) (st2 := [.int (nI (tf_tm (tf_ex f b k j) h b 0))]) (m_timeOf h b 0 ho hsf hx2 hh hbb (by decide)) rfl lX11_92 (by first | assumption | rfl | decide) rfl ⟨rfl, by decide, by decide, by decide, rfl, rfl⟩ ?_
            have t1 := tmb _ hx2
            refine tf_go hx ftX11_betterOf 5 [] 89 [some (.ref o), some (.int (nI h)), some (.int (nI b)), some (.int (tf_on 3000 r.1)), some (.int (nI r.2)), some (.int (nI k)), some (.int (nI j)), some (.int (nI (tf_tm (tf_ex f b k j) h b 0)))] [.int (nI j), .int (nI k), .int (nI b), .ref o] (tf_rw S (tf_rf G o 1) (tf_ex f b k j)) rfl ⟨by decide, by decide, rfl⟩ trivial ?_
            refine tf_cV hx ftX11_betterOf (nx := 92) (As := [.int (nI b), .int (nI k), .int (nI j)]) (rest := []) (st2 := []) ((by have h := m_changes b k j ho hsf hbb (by omega) (by omega); rw [tf_rw_rw, tf_ex_ex (by omega), tf_rw_id hs] at h; exact h)) rfl lX11_119 (by first | assumption | rfl | decide) rfl ⟨rfl, by decide, by decide, by decide, rfl, rfl⟩ ?_
            refine tf_go hx ftX11_betterOf 2 [] 96 [some (.ref o), some (.int (nI h)), some (.int (nI b)), some (.int (tf_on 3000 r.1)), some (.int (nI r.2)), some (.int (nI k)), some (.int (nI j)), some (.int (nI (tf_tm (tf_ex f b k j) h b 0)))] [.int (nI r.2), .int (nI (tf_tm (tf_ex f b k j) h b 0))] S rfl ⟨by decide, by decide, rfl⟩ trivial ?_
            by_cases d2 : r.2 ≤ tf_tm (tf_ex f b k j) h b 0
            · rw [if_pos d2] at hr
              refine tf_go hx ftX11_betterOf 4 [false] 28 [some (.ref o), some (.int (nI h)), some (.int (nI b)), some (.int (tf_on 3000 r.1)), some (.int (nI r.2)), some (.int (nI k)), some (.int ((nI j) + 1)), some (.int (nI (tf_tm (tf_ex f b k j) h b 0)))] [] S rfl ⟨by decide, by decide, rfl⟩ ⟨trivial, (tf_ltF (a := (tf_tm (tf_ex f b k j) h b 0)) (b := r.2) rfl rfl (by have := hb b; omega) (by have := hb b; omega) (by have := hb b; omega))⟩ ?_
              rw [show ((nI j) + 1) = nI (j + 1) from (tf_add (a := j) (b := 1) rfl (rfl : (1 : Int32) = nI 1))]
              refine tf_fgt [some (.ref o), some (.int (nI h)), some (.int (nI b)), some (.int (tf_on 3000 r.1)), some (.int (nI r.2)), some (.int (nI k)), some (.int (nI (j + 1))), none] (by simp [tf_lss]) ?_
              exact ihj (j + 1) r (by omega) hr (by omega) hr2 hr1
            · rw [if_neg d2] at hr
              refine tf_go hx ftX11_betterOf 11 [true] 28 [some (.ref o), some (.int (nI h)), some (.int (nI b)), some (.int ((100 * (nI k)) + (nI j))), some (.int (nI (tf_tm (tf_ex f b k j) h b 0))), some (.int (nI k)), some (.int ((nI j) + 1)), some (.int (nI (tf_tm (tf_ex f b k j) h b 0)))] [] S rfl ⟨by decide, by decide, rfl⟩ ⟨trivial, (tf_ltT (a := (tf_tm (tf_ex f b k j) h b 0)) (b := r.2) rfl rfl (by have := hb b; omega) (by have := hb b; omega) (by have := hb b; omega))⟩ ?_
              rw [show ((100 * (nI k)) + (nI j)) = nI ((100 * k) + j) from (tf_add (a := (100 * k)) (b := j) (tf_mul (a := 100) (b := k) (rfl : (100 : Int32) = nI 100) rfl) rfl)]
              rw [show ((nI j) + 1) = nI (j + 1) from (tf_add (a := j) (b := 1) rfl (rfl : (1 : Int32) = nI 1))]
              refine tf_fgt [some (.ref o), some (.int (nI h)), some (.int (nI b)), some (.int (nI (100 * k + j))), some (.int (nI (tf_tm (tf_ex f b k j) h b 0))), some (.int (nI k)), some (.int (nI (j + 1))), none] (by simp [tf_lss]) ?_
              have h0 := ihj (j + 1) (100 * k + j, tf_tm (tf_ex f b k j) h b 0) (by omega) hr (by omega) t1 (Or.inr (show 100 * k + j < 3000 by omega))
              rw [tf_on_y (show 100 * k + j < 3000 by omega)] at h0
              exact h0
      refine tf_fgt [some (.ref o), some (.int (nI h)), some (.int (nI b)), some (.int (tf_on 3000 q.1)), some (.int (nI q.2)), some (.int (nI k)), some (.int (nI (k + 1))), none] (by simp [tf_lss]) ?_
      exact inner (30 - (k + 1)) (k + 1) q (by omega) rfl (by omega) hq2 hq1
  exact loop 30 0 (3000, tf_tm f h b 0) rfl rfl t0 (Or.inl rfl)

set_option maxHeartbeats 1000000 in
theorem m_farOf {G : tf_G} {S : tf_Sg} {o : Nat} {f : Nat → Nat} (h b : Nat) (ho : tf_mo G o) (hf : tf_sf G S o f) (hg : tf_gd f) (hh : h < 4) (hbb : b < 4) : tf_Fn mX11_farOf 5 0 0 G S [.ref o, .int (nI h), .int (nI b)] G S (some (.int (nI (tf_fa f h b)))) := by
  obtain ⟨h1, ⟨r0, t0, n0⟩, ⟨r1, t1, n1⟩, ⟨r2, t2, n2⟩, ⟨r4, t4, n4⟩⟩ := id ho
  obtain ⟨hs, hb⟩ := id hf
  obtain ⟨⟨g1, g2, g3, g4⟩, g5, g6, g7, g8, g9, g10, g11⟩ := id hg
  refine tf_Fn_of (own := RX11) false ⟨by decide, rfl, by decide⟩ (Nat.le_of_ble_eq_true rfl) trivial (fun x hx hR => ?_)
  show tf_K x 0 0 G S 0 [some (.ref o), some (.int (nI h)), some (.int (nI b)), none, none] []
  unfold tf_fa at hR
  refine tf_go hx ftX11_farOf 4 [] 5 [some (.ref o), some (.int (nI h)), some (.int (nI b)), some (.int 0), some (.int 0)] [] S rfl ⟨by decide, by decide, rfl⟩ trivial ?_
  have loop : ∀ (m k : Nat) (y : Nat), 41 = k + m → (y + tf_fl2 f h b m k = tf_fl2 f h b 41 0) → (k ≤ 60) → tf_K x 0 0 G S 5 [some (.ref o), some (.int (nI h)), some (.int (nI b)), some (.int (nI y)), some (.int (nI k))] [] := by
    intro m
    induction m with
    | zero =>
      intro k y hk he hk3
      refine tf_go hx ftX11_farOf 5 [] 15 [some (.ref o), some (.int (nI h)), some (.int (nI b)), some (.int (nI y)), some (.int (nI k))] [.int (S (tf_rf G o 1) (Int32.toNatClampNeg 367)), .int (nI k)] S rfl ⟨by decide, by decide, rfl⟩ ⟨⟨trivial, ⟨by first | assumption | rfl | decide | omega, by first | assumption | rfl | decide | omega⟩⟩, ⟨Or.inl (by first | assumption | rfl | decide | omega), by first | assumption | exact tf_in (n := 367) (rfl : (367 : Int32) = nI 367) (by first | assumption | rfl) (by omega) (by decide)⟩⟩ ?_
      rw [show (S (tf_rf G o 1) (Int32.toNatClampNeg 367)) = nI (f 367) from (tf_rd hs (rfl : (367 : Int32) = nI 367) (by omega))]
      by_cases c0 : k < f 367
      · refine tf_go hx ftX11_farOf 1 [false] 18 [some (.ref o), some (.int (nI h)), some (.int (nI b)), some (.int (nI y)), some (.int (nI k))] [] S rfl ⟨by decide, by decide, rfl⟩ ⟨trivial, (tf_leF (a := (f 367)) (b := k) rfl rfl (by have := hb 367; omega) (by have := hb 367; omega) (by have := hb 367; omega))⟩ ?_
        refine tf_go hx ftX11_farOf 5 [] 28 [some (.ref o), some (.int (nI h)), some (.int (nI b)), some (.int (nI y)), some (.int (nI k))] [.int (S (tf_rf G o 1) (Int32.toNatClampNeg 364)), .int (nI k)] S rfl ⟨by decide, by decide, rfl⟩ ⟨⟨trivial, ⟨by first | assumption | rfl | decide | omega, by first | assumption | rfl | decide | omega⟩⟩, ⟨Or.inl (by first | assumption | rfl | decide | omega), by first | assumption | exact tf_in (n := 364) (rfl : (364 : Int32) = nI 364) (by first | assumption | rfl) (by omega) (by decide)⟩⟩ ?_
        rw [show (S (tf_rf G o 1) (Int32.toNatClampNeg 364)) = nI (f 364) from (tf_rd hs (rfl : (364 : Int32) = nI 364) (by omega))]
        refine tf_go hx ftX11_farOf 2 [true] 65 [some (.ref o), some (.int (nI h)), some (.int (nI b)), some (.int (nI y)), some (.int (nI k))] [.int (nI y)] S rfl ⟨by decide, by decide, rfl⟩ ⟨trivial, (tf_leT (a := (f 364)) (b := k) rfl rfl (by have := hb 364; omega) (by have := hb 364; omega) (by have := hb 364; omega))⟩ ?_
        exact tf_ret ftX11_farOf hR rfl ⟨by decide, by decide⟩ rfl rfl (by rw [← he]; rfl)
      · refine tf_go hx ftX11_farOf 2 [true] 65 [some (.ref o), some (.int (nI h)), some (.int (nI b)), some (.int (nI y)), some (.int (nI k))] [.int (nI y)] S rfl ⟨by decide, by decide, rfl⟩ ⟨trivial, (tf_leT (a := (f 367)) (b := k) rfl rfl (by have := hb 367; omega) (by have := hb 367; omega) (by have := hb 367; omega))⟩ ?_
        exact tf_ret ftX11_farOf hR rfl ⟨by decide, by decide⟩ rfl rfl (by rw [← he]; rfl)
    | succ m ih =>
      intro k y hk he hk3
      rw [tf_fl2_s] at he
      refine tf_go hx ftX11_farOf 5 [] 15 [some (.ref o), some (.int (nI h)), some (.int (nI b)), some (.int (nI y)), some (.int (nI k))] [.int (S (tf_rf G o 1) (Int32.toNatClampNeg 367)), .int (nI k)] S rfl ⟨by decide, by decide, rfl⟩ ⟨⟨trivial, ⟨by first | assumption | rfl | decide | omega, by first | assumption | rfl | decide | omega⟩⟩, ⟨Or.inl (by first | assumption | rfl | decide | omega), by first | assumption | exact tf_in (n := 367) (rfl : (367 : Int32) = nI 367) (by first | assumption | rfl) (by omega) (by decide)⟩⟩ ?_
      rw [show (S (tf_rf G o 1) (Int32.toNatClampNeg 367)) = nI (f 367) from (tf_rd hs (rfl : (367 : Int32) = nI 367) (by omega))]
      by_cases c1 : k < f 367
      · refine tf_go hx ftX11_farOf 1 [false] 18 [some (.ref o), some (.int (nI h)), some (.int (nI b)), some (.int (nI y)), some (.int (nI k))] [] S rfl ⟨by decide, by decide, rfl⟩ ⟨trivial, (tf_leF (a := (f 367)) (b := k) rfl rfl (by have := hb 367; omega) (by have := hb 367; omega) (by have := hb 367; omega))⟩ ?_
        refine tf_go hx ftX11_farOf 5 [] 28 [some (.ref o), some (.int (nI h)), some (.int (nI b)), some (.int (nI y)), some (.int (nI k))] [.int (S (tf_rf G o 1) (Int32.toNatClampNeg 364)), .int (nI k)] S rfl ⟨by decide, by decide, rfl⟩ ⟨⟨trivial, ⟨by first | assumption | rfl | decide | omega, by first | assumption | rfl | decide | omega⟩⟩, ⟨Or.inl (by first | assumption | rfl | decide | omega), by first | assumption | exact tf_in (n := 364) (rfl : (364 : Int32) = nI 364) (by first | assumption | rfl) (by omega) (by decide)⟩⟩ ?_
        rw [show (S (tf_rf G o 1) (Int32.toNatClampNeg 364)) = nI (f 364) from (tf_rd hs (rfl : (364 : Int32) = nI 364) (by omega))]
        by_cases c2 : k < f 364
        · rw [if_pos ⟨c1, c2⟩] at he
          refine tf_go hx ftX11_farOf 1 [false] 31 [some (.ref o), some (.int (nI h)), some (.int (nI b)), some (.int (nI y)), some (.int (nI k))] [] S rfl ⟨by decide, by decide, rfl⟩ ⟨trivial, (tf_leF (a := (f 364)) (b := k) rfl rfl (by have := hb 364; omega) (by have := hb 364; omega) (by have := hb 364; omega))⟩ ?_
          refine tf_go hx ftX11_farOf 12 [] 49 [some (.ref o), some (.int (nI h)), some (.int (nI b)), some (.int (nI y)), some (.int (nI k))] [.int 0, .int (nI k), .int (nI b), .int (nI h), .ref o, .int (S (tf_rf G o 1) (Int32.toNatClampNeg (324 + (nI k)))), .int (nI y)] S rfl ⟨by decide, by decide, rfl⟩ ⟨⟨trivial, ⟨by first | assumption | rfl | decide | omega, by first | assumption | rfl | decide | omega⟩⟩, ⟨Or.inl (by first | assumption | rfl | decide | omega), by first | assumption | exact tf_in (n := (324 + k)) (tf_add (a := 324) (b := k) (rfl : (324 : Int32) = nI 324) rfl) (by first | assumption | rfl) (by omega) (by decide)⟩⟩ ?_
          rw [show (S (tf_rf G o 1) (Int32.toNatClampNeg (324 + (nI k)))) = nI (f (324 + k)) from (tf_rd hs (tf_add (a := 324) (b := k) (rfl : (324 : Int32) = nI 324) rfl) (by omega))]
          refine tf_cV hx ftX11_farOf (nx := 52) (As := [.int (nI h), .int (nI b), .int (nI k), .int 0]) (rest := [.int (nI (f (324 + k))), .int (nI y)]) (st2 := [.int (nI (tf_gt f h b k 0)), .int (nI (f (324 + k))), .int (nI y)]) (m_gapAt h b k 0 ho hf hg hh hbb c2 (by decide)) rfl lX11_89 (by first | assumption | rfl | decide) rfl ⟨rfl, by decide, by decide, by decide, rfl, rfl⟩ ?_
          have gl := tf_gt_le hg (b := b) (i := k) (t := 0) hh
          refine tf_go hx ftX11_farOf 1 [] 53 [some (.ref o), some (.int (nI h)), some (.int (nI b)), some (.int (nI y)), some (.int (nI k))] [.int ((nI (f (324 + k))) - (nI (tf_gt f h b k 0))), .int (nI y)] S rfl ⟨by decide, by decide, rfl⟩ trivial ?_
          refine tf_cS hx ftX11_farOf (nx := 56) (As := [.int ((nI (f (324 + k))) - (nI (tf_gt f h b k 0)))]) (rest := [.int (nI y)]) (st2 := [.int (nI (tf_di (f (324 + k)) (tf_gt f h b k 0))), .int (nI y)]) ((by have h2 := m_amount (G := G) (S := S) (nI (f (324 + k)) - nI (tf_gt f h b k 0)); rw [tf_amt (by have := hb (324 + k); omega) (by omega)] at h2; exact h2)) rfl lX11_69 rfl ⟨rfl, by decide, by decide, by decide, rfl, rfl⟩ ?_
          refine tf_go hx ftX11_farOf 4 [] 5 [some (.ref o), some (.int (nI h)), some (.int (nI b)), some (.int ((nI y) + (nI (tf_di (f (324 + k)) (tf_gt f h b k 0))))), some (.int ((nI k) + 1))] [] S rfl ⟨by decide, by decide, rfl⟩ trivial ?_
          rw [show ((nI y) + (nI (tf_di (f (324 + k)) (tf_gt f h b k 0)))) = nI (y + (tf_di (f (324 + k)) (tf_gt f h b k 0))) from (tf_add (a := y) (b := (tf_di (f (324 + k)) (tf_gt f h b k 0))) rfl rfl)]
          rw [show ((nI k) + 1) = nI (k + 1) from (tf_add (a := k) (b := 1) rfl (rfl : (1 : Int32) = nI 1))]
          exact ih (k + 1) (y + tf_di (f (324 + k)) (tf_gt f h b k 0)) (by omega) (by omega) (by omega)
        · refine tf_go hx ftX11_farOf 2 [true] 65 [some (.ref o), some (.int (nI h)), some (.int (nI b)), some (.int (nI y)), some (.int (nI k))] [.int (nI y)] S rfl ⟨by decide, by decide, rfl⟩ ⟨trivial, (tf_leT (a := (f 364)) (b := k) rfl rfl (by have := hb 364; omega) (by have := hb 364; omega) (by have := hb 364; omega))⟩ ?_
          exact tf_ret ftX11_farOf hR rfl ⟨by decide, by decide⟩ rfl rfl (by rw [if_neg (by omega)] at he; rw [← he]; rfl)
      · refine tf_go hx ftX11_farOf 2 [true] 65 [some (.ref o), some (.int (nI h)), some (.int (nI b)), some (.int (nI y)), some (.int (nI k))] [.int (nI y)] S rfl ⟨by decide, by decide, rfl⟩ ⟨trivial, (tf_leT (a := (f 367)) (b := k) rfl rfl (by have := hb 367; omega) (by have := hb 367; omega) (by have := hb 367; omega))⟩ ?_
        exact tf_ret ftX11_farOf hR rfl ⟨by decide, by decide⟩ rfl rfl (by rw [if_neg (by omega)] at he; rw [← he]; rfl)
  exact loop 41 0 0 (by omega) (by omega) (by omega)

set_option maxHeartbeats 1000000 in
theorem m_acheAt {G : tf_G} {S : tf_Sg} {o : Nat} {f : Nat → Nat} (b i : Nat) (ho : tf_mo G o) (hf : tf_sf G S o f) (hg : tf_gd f) (hbb : b < 4) (hi : i < f 364) : tf_Fn mX11_acheAt 2 0 0 G S [.ref o, .int (nI b), .int (nI i)] G S (some (.int (nI (tf_ah f b i)))) := by
  obtain ⟨h1, ⟨r0, t0, n0⟩, ⟨r1, t1, n1⟩, ⟨r2, t2, n2⟩, ⟨r4, t4, n4⟩⟩ := id ho
  obtain ⟨hs, hb⟩ := id hf
  obtain ⟨⟨g1, g2, g3, g4⟩, g5, g6, g7, g8, g9, g10, g11⟩ := id hg
  refine tf_Fn_of (own := RX11) false ⟨by decide, rfl, by decide⟩ (Nat.le_of_ble_eq_true rfl) trivial (fun x hx hR => ?_)
  show tf_K x 0 0 G S 0 [some (.ref o), some (.int (nI b)), some (.int (nI i)), none, none] []
  unfold tf_ah at hR
  have l1 := g6 i hi
  refine tf_go hx ftX11_acheAt 8 [] 12 [some (.ref o), some (.int (nI b)), some (.int (nI i)), none, none] [.int (S (tf_rf G o 1) (Int32.toNatClampNeg (144 + (nI i)))), .int (nI b), .ref o] S rfl ⟨by decide, by decide, rfl⟩ ⟨⟨trivial, ⟨by first | assumption | rfl | decide | omega, by first | assumption | rfl | decide | omega⟩⟩, ⟨Or.inl (by first | assumption | rfl | decide | omega), by first | assumption | exact tf_in (n := (144 + i)) (tf_add (a := 144) (b := i) (rfl : (144 : Int32) = nI 144) rfl) (by first | assumption | rfl) (by omega) (by decide)⟩⟩ ?_
  rw [show (S (tf_rf G o 1) (Int32.toNatClampNeg (144 + (nI i)))) = nI (f (144 + i)) from (tf_rd hs (tf_add (a := 144) (b := i) (rfl : (144 : Int32) = nI 144) rfl) (by omega))]
  refine tf_cV hx ftX11_acheAt (nx := 15) (As := [.int (nI b), .int (nI (f (144 + i)))]) (rest := []) (st2 := [.int (tf_on 30 (tf_ke f b (f (144 + i))))]) (m_keyAt b (f (144 + i)) ho hf hbb (by omega)) rfl lX11_51 (by first | assumption | rfl | decide) rfl ⟨rfl, by decide, by decide, by decide, rfl, rfl⟩ ?_
  have k1 := tf_ke_le f b (f (144 + i))
  generalize hu : tf_ke f b (f (144 + i)) = u at *
  by_cases c1 : u = 30
  · rw [tf_on_n (by omega)]
    refine tf_go hx ftX11_acheAt 4 [false] 21 [some (.ref o), some (.int (nI b)), some (.int (nI i)), some (.int (-9)), none] [.int 0] S rfl ⟨by decide, by decide, rfl⟩ ⟨trivial, (by decide)⟩ ?_
    exact tf_ret ftX11_acheAt hR rfl ⟨by decide, by decide⟩ rfl rfl (by rw [if_pos c1]; rfl)
  · rw [tf_on_y (show u < 30 by omega)]
    refine tf_go hx ftX11_acheAt 2 [] 17 [some (.ref o), some (.int (nI b)), some (.int (nI i)), some (.int (nI u)), none] [.int (nI u)] S rfl ⟨by decide, by decide, rfl⟩ trivial ?_
    refine tf_go hx ftX11_acheAt 1 [true] 22 [some (.ref o), some (.int (nI b)), some (.int (nI i)), some (.int (nI u)), none] [] S rfl ⟨by decide, by decide, rfl⟩ ⟨trivial, (tf_leT (a := 0) (b := u) (rfl : (0 : Int32) = nI 0) rfl (by omega) (by omega) (by omega))⟩ ?_
    refine tf_go hx ftX11_acheAt 1 [] 23 [some (.ref o), some (.int (nI b)), some (.int (nI i)), some (.int (nI u)), none] [.int (nI i)] S rfl ⟨by decide, by decide, rfl⟩ trivial ?_
    by_cases c2 : i = 0
    · refine tf_go hx ftX11_acheAt 4 [false] 50 [some (.ref o), some (.int (nI b)), some (.int (nI i)), some (.int (nI u)), some (.int (-9))] [] S rfl ⟨by decide, by decide, rfl⟩ ⟨trivial, (tf_neF (a := i) (b := 0) rfl (rfl : (0 : Int32) = nI 0) (by omega))⟩ ?_
      refine tf_go hx ftX11_acheAt 3 [true] 80 [some (.ref o), some (.int (nI b)), some (.int (nI i)), some (.int (nI u)), some (.int (-9))] [.int 1] S rfl ⟨by decide, by decide, rfl⟩ ⟨trivial, (by decide)⟩ ?_
      exact tf_ret ftX11_acheAt hR rfl ⟨by decide, by decide⟩ rfl rfl (by rw [if_neg c1, if_neg (by rintro ⟨h, -⟩; exact h c2)]; rfl)
    · have l2 := g6 (i - 1) (by omega)
      rw [show 144 + (i - 1) = 144 + i - 1 by omega] at l2
      refine tf_go hx ftX11_acheAt 1 [true] 31 [some (.ref o), some (.int (nI b)), some (.int (nI i)), some (.int (nI u)), none] [] S rfl ⟨by decide, by decide, rfl⟩ ⟨trivial, (tf_eqF (a := i) (b := 0) rfl (rfl : (0 : Int32) = nI 0) (by omega) (by omega) (by omega))⟩ ?_
      refine tf_go hx ftX11_acheAt 10 [] 45 [some (.ref o), some (.int (nI b)), some (.int (nI i)), some (.int (nI u)), none] [.int (S (tf_rf G o 1) (Int32.toNatClampNeg ((144 + (nI i)) - 1))), .int (nI b), .ref o] S rfl ⟨by decide, by decide, rfl⟩ ⟨⟨trivial, ⟨by first | assumption | rfl | decide | omega, by first | assumption | rfl | decide | omega⟩⟩, ⟨Or.inl (by first | assumption | rfl | decide | omega), by first | assumption | exact tf_in (n := ((144 + i) - 1)) (tf_sub (a := (144 + i)) (b := 1) (tf_add (a := 144) (b := i) (rfl : (144 : Int32) = nI 144) rfl) (rfl : (1 : Int32) = nI 1) (by omega)) (by first | assumption | rfl) (by omega) (by decide)⟩⟩ ?_
      rw [show (S (tf_rf G o 1) (Int32.toNatClampNeg ((144 + (nI i)) - 1))) = nI (f ((144 + i) - 1)) from (tf_rd hs (tf_sub (a := (144 + i)) (b := 1) (tf_add (a := 144) (b := i) (rfl : (144 : Int32) = nI 144) rfl) (rfl : (1 : Int32) = nI 1) (by omega)) (by omega))]
      refine tf_cV hx ftX11_acheAt (nx := 48) (As := [.int (nI b), .int (nI (f ((144 + i) - 1)))]) (rest := []) (st2 := [.int (tf_on 30 (tf_ke f b (f (144 + i - 1))))]) (m_keyAt b (f (144 + i - 1)) ho hf hbb (by omega)) rfl lX11_51 (by first | assumption | rfl | decide) rfl ⟨rfl, by decide, by decide, by decide, rfl, rfl⟩ ?_
      have k2 := tf_ke_le f b (f (144 + i - 1))
      generalize hv : tf_ke f b (f (144 + i - 1)) = v at *
      by_cases c3 : v = 30
      · rw [tf_on_n (by omega)]
        refine tf_go hx ftX11_acheAt 2 [] 52 [some (.ref o), some (.int (nI b)), some (.int (nI i)), some (.int (nI u)), some (.int (-9))] [.int (-9)] S rfl ⟨by decide, by decide, rfl⟩ trivial ?_
        refine tf_go hx ftX11_acheAt 2 [true] 80 [some (.ref o), some (.int (nI b)), some (.int (nI i)), some (.int (nI u)), some (.int (-9))] [.int 1] S rfl ⟨by decide, by decide, rfl⟩ ⟨trivial, (by decide)⟩ ?_
        exact tf_ret ftX11_acheAt hR rfl ⟨by decide, by decide⟩ rfl rfl (by rw [if_neg c1, if_neg (by rintro ⟨-, h, -⟩; omega)]; rfl)
      · rw [tf_on_y (show v < 30 by omega)]
        refine tf_go hx ftX11_acheAt 2 [] 52 [some (.ref o), some (.int (nI b)), some (.int (nI i)), some (.int (nI u)), some (.int (nI v))] [.int (nI v)] S rfl ⟨by decide, by decide, rfl⟩ trivial ?_
        refine tf_go hx ftX11_acheAt 1 [false] 55 [some (.ref o), some (.int (nI b)), some (.int (nI i)), some (.int (nI u)), some (.int (nI v))] [] S rfl ⟨by decide, by decide, rfl⟩ ⟨trivial, (tf_ltF (a := v) (b := 0) rfl (rfl : (0 : Int32) = nI 0) (by omega) (by omega) (by omega))⟩ ?_
        refine tf_go hx ftX11_acheAt 2 [] 58 [some (.ref o), some (.int (nI b)), some (.int (nI i)), some (.int (nI u)), some (.int (nI v))] [.int (nI u), .int (nI v)] S rfl ⟨by decide, by decide, rfl⟩ trivial ?_
        by_cases c4 : v = u
        · refine tf_go hx ftX11_acheAt 2 [true] 80 [some (.ref o), some (.int (nI b)), some (.int (nI i)), some (.int (nI u)), some (.int (nI v))] [.int 1] S rfl ⟨by decide, by decide, rfl⟩ ⟨trivial, (tf_eqT (a := v) (b := u) rfl rfl (by omega))⟩ ?_
          exact tf_ret ftX11_acheAt hR rfl ⟨by decide, by decide⟩ rfl rfl (by rw [if_neg c1, if_neg (by rintro ⟨-, -, h, -⟩; exact h c4)]; rfl)
        · refine tf_go hx ftX11_acheAt 1 [false] 61 [some (.ref o), some (.int (nI b)), some (.int (nI i)), some (.int (nI u)), some (.int (nI v))] [] S rfl ⟨by decide, by decide, rfl⟩ ⟨trivial, (tf_eqF (a := v) (b := u) rfl rfl (by omega) (by omega) (by omega))⟩ ?_
          refine tf_go hx ftX11_acheAt 2 [] 64 [some (.ref o), some (.int (nI b)), some (.int (nI i)), some (.int (nI u)), some (.int (nI v))] [.int 0, .int (nI v)] S rfl ⟨by decide, by decide, rfl⟩ trivial ?_
          refine tf_cS hx ftX11_acheAt (nx := 67) (As := [.int (nI v), .int 0]) (rest := []) (st2 := [.int (nI (tf_fi v 0))]) (m_finger v 0 (by omega) (by decide)) rfl lX11_58 rfl ⟨rfl, by decide, by decide, by decide, rfl, rfl⟩ ?_
          refine tf_go hx ftX11_acheAt 2 [] 69 [some (.ref o), some (.int (nI b)), some (.int (nI i)), some (.int (nI u)), some (.int (nI v))] [.int 0, .int (nI u), .int (nI (tf_fi v 0))] S rfl ⟨by decide, by decide, rfl⟩ trivial ?_
          refine tf_cS hx ftX11_acheAt (nx := 72) (As := [.int (nI u), .int 0]) (rest := [.int (nI (tf_fi v 0))]) (st2 := [.int (nI (tf_fi u 0)), .int (nI (tf_fi v 0))]) (m_finger u 0 (by omega) (by decide)) rfl lX11_58 rfl ⟨rfl, by decide, by decide, by decide, rfl, rfl⟩ ?_
          have f1 := tf_fi_le v 0
          have f2 := tf_fi_le u 0
          by_cases c5 : tf_fi v 0 = tf_fi u 0
          · refine tf_go hx ftX11_acheAt 3 [false] 80 [some (.ref o), some (.int (nI b)), some (.int (nI i)), some (.int (nI u)), some (.int (nI v))] [.int 3] S rfl ⟨by decide, by decide, rfl⟩ ⟨trivial, (tf_neF (a := (tf_fi v 0)) (b := (tf_fi u 0)) rfl rfl (by omega))⟩ ?_
            exact tf_ret ftX11_acheAt hR rfl ⟨by decide, by decide⟩ rfl rfl (by rw [if_neg c1, if_pos ⟨c2, by omega, c4, c5⟩]; rfl)
          · refine tf_go hx ftX11_acheAt 2 [true] 80 [some (.ref o), some (.int (nI b)), some (.int (nI i)), some (.int (nI u)), some (.int (nI v))] [.int 1] S rfl ⟨by decide, by decide, rfl⟩ ⟨trivial, (tf_eqF (a := (tf_fi v 0)) (b := (tf_fi u 0)) rfl rfl (by omega) (by omega) (by omega))⟩ ?_
            exact tf_ret ftX11_acheAt hR rfl ⟨by decide, by decide⟩ rfl rfl (by rw [if_neg c1, if_neg (by rintro ⟨-, -, -, h⟩; exact c5 h)]; rfl)

set_option maxHeartbeats 1000000 in
theorem m_paceOf {G : tf_G} {S : tf_Sg} {o : Nat} {f : Nat → Nat} (h b p d : Nat) (ho : tf_mo G o) (hf : tf_sf G S o f) (hg : tf_gd f) (hh : h < 4) (hbb : b < 4) (hp : p ≤ 9) : tf_Fn mX11_paceOf 6 0 0 G S [.ref o, .int (nI h), .int (nI b), .int (nI p), .int (nI d)] G S (some (.int (nI (tf_pc f h b p d)))) := by
  obtain ⟨h1, ⟨r0, t0, n0⟩, ⟨r1, t1, n1⟩, ⟨r2, t2, n2⟩, ⟨r4, t4, n4⟩⟩ := id ho
  obtain ⟨hs, hb⟩ := id hf
  obtain ⟨⟨g1, g2, g3, g4⟩, g5, g6, g7, g8, g9, g10, g11⟩ := id hg
  refine tf_Fn_of (own := RX11) false ⟨by decide, rfl, by decide⟩ (Nat.le_of_ble_eq_true rfl) trivial (fun x hx hR => ?_)
  show tf_K x 0 0 G S 0 [some (.ref o), some (.int (nI h)), some (.int (nI b)), some (.int (nI p)), some (.int (nI d))] []
  unfold tf_pc at hR
  refine tf_go hx ftX11_paceOf 4 [] 4 [some (.ref o), some (.int (nI h)), some (.int (nI b)), some (.int (nI p)), some (.int (nI d))] [.int 0, .int (nI b), .int (nI h), .ref o] S rfl ⟨by decide, by decide, rfl⟩ trivial ?_
  refine tf_cV hx ftX11_paceOf (nx := 7) (As := [.int (nI h), .int (nI b), .int 0]) (rest := []) (st2 := [.int (nI (tf_tm f h b 0))]) (m_timeOf h b 0 ho hf hg hh hbb (by decide)) rfl lX11_92 (by first | assumption | rfl | decide) rfl ⟨rfl, by decide, by decide, by decide, rfl, rfl⟩ ?_
  have t1 := tf_tm_le hg (b := b) (t := 0) hh
  have q1 := Nat.mul_le_mul g1 hp
  have q2 := Nat.mul_le_mul q1 hp
  refine tf_go hx ftX11_paceOf 19 [] 34 [some (.ref o), some (.int (nI h)), some (.int (nI b)), some (.int (nI p)), some (.int (nI d))] [.int ((((nI (tf_tm f h b 0)) * 10) / (10 + (nI p))) + (((((S (tf_rf G o 1) (Int32.toNatClampNeg 364)) * (nI p)) * (nI p)) / 100) * (nI d)))] S rfl ⟨by decide, by decide, rfl⟩ ⟨⟨⟨⟨trivial, (tf_eqF (a := 10 + p) (b := 0) (tf_add (a := 10) (b := p) rfl rfl) rfl (by omega) (by omega) (by omega))⟩, ⟨by first | assumption | rfl | decide | omega, by first | assumption | rfl | decide | omega⟩⟩, ⟨Or.inl (by first | assumption | rfl | decide | omega), by first | assumption | exact tf_in (n := 364) (rfl : (364 : Int32) = nI 364) (by first | assumption | rfl) (by omega) (by decide)⟩⟩, (by decide)⟩ ?_
  rw [show ((((nI (tf_tm f h b 0)) * 10) / (10 + (nI p))) + (((((S (tf_rf G o 1) (Int32.toNatClampNeg 364)) * (nI p)) * (nI p)) / 100) * (nI d))) = nI ((((tf_tm f h b 0) * 10) / (10 + p)) + (((((f 364) * p) * p) / 100) * d)) from (tf_add (a := (((tf_tm f h b 0) * 10) / (10 + p))) (b := (((((f 364) * p) * p) / 100) * d)) (tf_div (a := ((tf_tm f h b 0) * 10)) (d := (10 + p)) (tf_mul (a := (tf_tm f h b 0)) (b := 10) rfl (rfl : (10 : Int32) = nI 10)) (tf_add (a := 10) (b := p) (rfl : (10 : Int32) = nI 10) rfl) (by have := hb h; omega) (by omega) (by omega)) (tf_mul (a := ((((f 364) * p) * p) / 100)) (b := d) (tf_div (a := (((f 364) * p) * p)) (d := 100) (tf_mul (a := ((f 364) * p)) (b := p) (tf_mul (a := (f 364)) (b := p) (tf_rd hs (rfl : (364 : Int32) = nI 364) (by omega)) rfl) rfl) (rfl : (100 : Int32) = nI 100) (by have := hb 364; omega) (by omega) (by omega)) rfl))]
  exact tf_ret ftX11_paceOf hR rfl ⟨by decide, by decide⟩ rfl rfl rfl

