def tX11_slipAt : tf_T := [(0, .aload_n 0, 1, 0, 0),
  (1, .getfield 13, 4, 0, 0),
  (4, .sipush 365, 7, 0, 365),
  (7, .iaload, 8, 0, 0),
  (8, .aload_n 0, 9, 0, 0),
  (9, .getfield 13, 12, 0, 0),
  (12, .sipush 364, 15, 0, 364),
  (15, .iaload, 16, 0, 0),
  (16, .if_icmp .eq 6, 19, 22, 0),
  (19, .bipush (-9), 21, 0, (-9)),
  (21, .ireturn, 22, 0, 0),
  (22, .bipush (-9), 24, 0, (-9)),
  (24, .istore_n 1, 25, 0, 0),
  (25, .iconst 0, 26, 0, 0),
  (26, .istore_n 2, 27, 0, 0),
  (27, .iload_n 2, 28, 0, 0),
  (28, .aload_n 0, 29, 0, 0),
  (29, .getfield 13, 32, 0, 0),
  (32, .sipush 364, 35, 0, 364),
  (35, .iaload, 36, 0, 0),
  (36, .if_icmp .ge 44, 39, 80, 0),
  (39, .aload_n 0, 40, 0, 0),
  (40, .getfield 13, 43, 0, 0),
  (43, .sipush 144, 46, 0, 144),
  (46, .iload_n 2, 47, 0, 0),
  (47, .iadd, 48, 0, 0),
  (48, .iaload, 49, 0, 0),
  (49, .aload_n 0, 50, 0, 0),
  (50, .getfield 13, 53, 0, 0),
  (53, .sipush 184, 56, 0, 184),
  (56, .iload_n 2, 57, 0, 0),
  (57, .iadd, 58, 0, 0),
  (58, .iaload, 59, 0, 0),
  (59, .if_icmp .ne 6, 62, 65, 0),
  (62, .goto 12, 65, 74, 0),
  (65, .iload_n 1, 66, 0, 0),
  (66, .ifCond .lt 6, 69, 72, 0),
  (69, .bipush (-9), 71, 0, (-9)),
  (71, .ireturn, 72, 0, 0),
  (72, .iload_n 2, 73, 0, 0),
  (73, .istore_n 1, 74, 0, 0),
  (74, .iinc 2 1, 77, 0, 1),
  (77, .goto (-50), 80, 27, 0),
  (80, .iload_n 1, 81, 0, 0),
  (81, .ifCond .lt 22, 84, 103, 0),
  (84, .aload_n 0, 85, 0, 0),
  (85, .getfield 13, 88, 0, 0),
  (88, .sipush 184, 91, 0, 184),
  (91, .iload_n 1, 92, 0, 0),
  (92, .iadd, 93, 0, 0),
  (93, .iaload, 94, 0, 0),
  (94, .bipush 26, 96, 0, 26),
  (96, .if_icmp .eq 7, 99, 103, 0),
  (99, .iload_n 1, 100, 0, 0),
  (100, .goto 5, 103, 105, 0),
  (103, .bipush (-9), 105, 0, (-9)),
  (105, .ireturn, 106, 0, 0)]
set_option maxRecDepth 100000 in
theorem okX11_slipAt : tf_okT cX11_slipAt tX11_slipAt := by unfold tf_okT; decide +kernel
theorem ftX11_slipAt : 1 ≤ 1 ∧ tf_okF RX11 fX11 ∧ tf_okT cX11_slipAt tX11_slipAt := ⟨by decide, okfX11, okX11_slipAt⟩
def mX11_slipAt : tf_M := (yX11_slipAt, cX11_slipAt, 3, (some .int))

def tX11_swapAt : tf_T := [(0, .aload_n 0, 1, 0, 0),
  (1, .getfield 13, 4, 0, 0),
  (4, .sipush 365, 7, 0, 365),
  (7, .iaload, 8, 0, 0),
  (8, .aload_n 0, 9, 0, 0),
  (9, .getfield 13, 12, 0, 0),
  (12, .sipush 364, 15, 0, 364),
  (15, .iaload, 16, 0, 0),
  (16, .if_icmp .eq 6, 19, 22, 0),
  (19, .bipush (-9), 21, 0, (-9)),
  (21, .ireturn, 22, 0, 0),
  (22, .iconst 0, 23, 0, 0),
  (23, .istore_n 1, 24, 0, 0),
  (24, .iload_n 1, 25, 0, 0),
  (25, .aload_n 0, 26, 0, 0),
  (26, .getfield 13, 29, 0, 0),
  (29, .sipush 364, 32, 0, 364),
  (32, .iaload, 33, 0, 0),
  (33, .if_icmp .ge 32, 36, 65, 0),
  (36, .aload_n 0, 37, 0, 0),
  (37, .getfield 13, 40, 0, 0),
  (40, .sipush 144, 43, 0, 144),
  (43, .iload_n 1, 44, 0, 0),
  (44, .iadd, 45, 0, 0),
  (45, .iaload, 46, 0, 0),
  (46, .aload_n 0, 47, 0, 0),
  (47, .getfield 13, 50, 0, 0),
  (50, .sipush 184, 53, 0, 184),
  (53, .iload_n 1, 54, 0, 0),
  (54, .iadd, 55, 0, 0),
  (55, .iaload, 56, 0, 0),
  (56, .if_icmp .ne 9, 59, 65, 0),
  (59, .iinc 1 1, 62, 0, 1),
  (62, .goto (-38), 65, 24, 0),
  (65, .iload_n 1, 66, 0, 0),
  (66, .iconst 1, 67, 0, 1),
  (67, .iadd, 68, 0, 0),
  (68, .aload_n 0, 69, 0, 0),
  (69, .getfield 13, 72, 0, 0),
  (72, .sipush 364, 75, 0, 364),
  (75, .iaload, 76, 0, 0),
  (76, .if_icmp .ge 53, 79, 129, 0),
  (79, .aload_n 0, 80, 0, 0),
  (80, .getfield 13, 83, 0, 0),
  (83, .sipush 144, 86, 0, 144),
  (86, .iload_n 1, 87, 0, 0),
  (87, .iadd, 88, 0, 0),
  (88, .iaload, 89, 0, 0),
  (89, .aload_n 0, 90, 0, 0),
  (90, .getfield 13, 93, 0, 0),
  (93, .sipush 184, 96, 0, 184),
  (96, .iload_n 1, 97, 0, 0),
  (97, .iadd, 98, 0, 0),
  (98, .iconst 1, 99, 0, 1),
  (99, .iadd, 100, 0, 0),
  (100, .iaload, 101, 0, 0),
  (101, .if_icmp .ne 28, 104, 129, 0),
  (104, .aload_n 0, 105, 0, 0),
  (105, .getfield 13, 108, 0, 0),
  (108, .sipush 144, 111, 0, 144),
  (111, .iload_n 1, 112, 0, 0),
  (112, .iadd, 113, 0, 0),
  (113, .iconst 1, 114, 0, 1),
  (114, .iadd, 115, 0, 0),
  (115, .iaload, 116, 0, 0),
  (116, .aload_n 0, 117, 0, 0),
  (117, .getfield 13, 120, 0, 0),
  (120, .sipush 184, 123, 0, 184),
  (123, .iload_n 1, 124, 0, 0),
  (124, .iadd, 125, 0, 0),
  (125, .iaload, 126, 0, 0),
  (126, .if_icmp .eq 6, 129, 132, 0),
  (129, .bipush (-9), 131, 0, (-9)),
  (131, .ireturn, 132, 0, 0),
  (132, .iload_n 1, 133, 0, 0),
  (133, .iconst 2, 134, 0, 2),
  (134, .iadd, 135, 0, 0),
  (135, .istore_n 2, 136, 0, 0),
  (136, .iload_n 2, 137, 0, 0),
  (137, .aload_n 0, 138, 0, 0),
  (138, .getfield 13, 141, 0, 0),
  (141, .sipush 364, 144, 0, 364),
  (144, .iaload, 145, 0, 0),
  (145, .if_icmp .ge 35, 148, 180, 0),
  (148, .aload_n 0, 149, 0, 0),
  (149, .getfield 13, 152, 0, 0),
  (152, .sipush 144, 155, 0, 144),
  (155, .iload_n 2, 156, 0, 0),
  (156, .iadd, 157, 0, 0),
  (157, .iaload, 158, 0, 0),
  (158, .aload_n 0, 159, 0, 0),
  (159, .getfield 13, 162, 0, 0),
  (162, .sipush 184, 165, 0, 184),
  (165, .iload_n 2, 166, 0, 0),
  (166, .iadd, 167, 0, 0),
  (167, .iaload, 168, 0, 0),
  (168, .if_icmp .eq 6, 171, 174, 0),
  (171, .bipush (-9), 173, 0, (-9)),
  (173, .ireturn, 174, 0, 0),
  (174, .iinc 2 1, 177, 0, 1),
  (177, .goto (-41), 180, 136, 0),
  (180, .iload_n 1, 181, 0, 0),
  (181, .ireturn, 182, 0, 0)]
set_option maxRecDepth 100000 in
theorem okX11_swapAt : tf_okT cX11_swapAt tX11_swapAt := by unfold tf_okT; decide +kernel
theorem ftX11_swapAt : 1 ≤ 1 ∧ tf_okF RX11 fX11 ∧ tf_okT cX11_swapAt tX11_swapAt := ⟨by decide, okfX11, okX11_swapAt⟩
def mX11_swapAt : tf_M := (yX11_swapAt, cX11_swapAt, 3, (some .int))

def tX11_doubleAt : tf_T := [(0, .aload_n 0, 1, 0, 0),
  (1, .invokevirtual 95, 4, 0, 0),
  (4, .istore_n 1, 5, 0, 0),
  (5, .iload_n 1, 6, 0, 0),
  (6, .iconst 1, 7, 0, 1),
  (7, .if_icmp .lt 17, 10, 24, 0),
  (10, .iload_n 1, 11, 0, 0),
  (11, .iconst 1, 12, 0, 1),
  (12, .iadd, 13, 0, 0),
  (13, .aload_n 0, 14, 0, 0),
  (14, .getfield 13, 17, 0, 0),
  (17, .sipush 364, 20, 0, 364),
  (20, .iaload, 21, 0, 0),
  (21, .if_icmp .lt 6, 24, 27, 0),
  (24, .bipush (-9), 26, 0, (-9)),
  (26, .ireturn, 27, 0, 0),
  (27, .aload_n 0, 28, 0, 0),
  (28, .getfield 13, 31, 0, 0),
  (31, .sipush 144, 34, 0, 144),
  (34, .iload_n 1, 35, 0, 0),
  (35, .iadd, 36, 0, 0),
  (36, .iconst 1, 37, 0, 1),
  (37, .isub, 38, 0, 0),
  (38, .iaload, 39, 0, 0),
  (39, .istore_n 2, 40, 0, 0),
  (40, .aload_n 0, 41, 0, 0),
  (41, .getfield 13, 44, 0, 0),
  (44, .sipush 144, 47, 0, 144),
  (47, .iload_n 1, 48, 0, 0),
  (48, .iadd, 49, 0, 0),
  (49, .iaload, 50, 0, 0),
  (50, .istore_n 3, 51, 0, 0),
  (51, .aload_n 0, 52, 0, 0),
  (52, .getfield 13, 55, 0, 0),
  (55, .sipush 144, 58, 0, 144),
  (58, .iload_n 1, 59, 0, 0),
  (59, .iadd, 60, 0, 0),
  (60, .iconst 1, 61, 0, 1),
  (61, .iadd, 62, 0, 0),
  (62, .iaload, 63, 0, 0),
  (63, .istore 4, 65, 0, 0),
  (65, .aload_n 0, 66, 0, 0),
  (66, .getfield 13, 69, 0, 0),
  (69, .sipush 184, 72, 0, 184),
  (72, .iload_n 1, 73, 0, 0),
  (73, .iadd, 74, 0, 0),
  (74, .iaload, 75, 0, 0),
  (75, .istore 5, 77, 0, 0),
  (77, .iload_n 3, 78, 0, 0),
  (78, .iload_n 2, 79, 0, 0),
  (79, .if_icmp .ne 16, 82, 95, 0),
  (82, .iload 5, 84, 0, 0),
  (84, .iload 4, 86, 0, 0),
  (86, .if_icmp .ne 9, 89, 95, 0),
  (89, .iload_n 2, 90, 0, 0),
  (90, .iload 4, 92, 0, 0),
  (92, .if_icmp .ne 21, 95, 113, 0),
  (95, .iload_n 3, 96, 0, 0),
  (96, .iload 4, 98, 0, 0),
  (98, .if_icmp .ne 21, 101, 119, 0),
  (101, .iload 5, 103, 0, 0),
  (103, .iload_n 2, 104, 0, 0),
  (104, .if_icmp .ne 15, 107, 119, 0),
  (107, .iload_n 2, 108, 0, 0),
  (108, .iload 4, 110, 0, 0),
  (110, .if_icmp .eq 9, 113, 119, 0),
  (113, .iload_n 1, 114, 0, 0),
  (114, .iconst 1, 115, 0, 1),
  (115, .isub, 116, 0, 0),
  (116, .goto 5, 119, 121, 0),
  (119, .bipush (-9), 121, 0, (-9)),
  (121, .ireturn, 122, 0, 0)]
set_option maxRecDepth 100000 in
theorem okX11_doubleAt : tf_okT cX11_doubleAt tX11_doubleAt := by unfold tf_okT; decide +kernel
theorem ftX11_doubleAt : 1 ≤ 2 ∧ tf_okF RX11 fX11 ∧ tf_okT cX11_doubleAt tX11_doubleAt := ⟨by decide, okfX11, okX11_doubleAt⟩
def mX11_doubleAt : tf_M := (yX11_doubleAt, cX11_doubleAt, 6, (some .int))

def tX11_byKeys : tf_T := [(0, .aload_n 0, 1, 0, 0),
  (1, .invokevirtual 95, 4, 0, 0),
  (4, .istore_n 3, 5, 0, 0),
  (5, .iload_n 3, 6, 0, 0),
  (6, .ifCond .ge 6, 9, 12, 0),
  (9, .bipush (-9), 11, 0, (-9)),
  (11, .ireturn, 12, 0, 0),
  (12, .aload_n 0, 13, 0, 0),
  (13, .iload_n 1, 14, 0, 0),
  (14, .aload_n 0, 15, 0, 0),
  (15, .getfield 13, 18, 0, 0),
  (18, .sipush 144, 21, 0, 144),
  (21, .iload_n 3, 22, 0, 0),
  (22, .iadd, 23, 0, 0),
  (23, .iaload, 24, 0, 0),
  (24, .invokevirtual 51, 27, 0, 0),
  (27, .istore 4, 29, 0, 0),
  (29, .aload_n 0, 30, 0, 0),
  (30, .iload_n 1, 31, 0, 0),
  (31, .aload_n 0, 32, 0, 0),
  (32, .getfield 13, 35, 0, 0),
  (35, .sipush 184, 38, 0, 184),
  (38, .iload_n 3, 39, 0, 0),
  (39, .iadd, 40, 0, 0),
  (40, .iaload, 41, 0, 0),
  (41, .invokevirtual 51, 44, 0, 0),
  (44, .istore 5, 46, 0, 0),
  (46, .iload 4, 48, 0, 0),
  (48, .ifCond .lt 8, 51, 56, 0),
  (51, .iload 5, 53, 0, 0),
  (53, .ifCond .ge 6, 56, 59, 0),
  (56, .bipush (-9), 58, 0, (-9)),
  (58, .ireturn, 59, 0, 0),
  (59, .iload 4, 61, 0, 0),
  (61, .bipush 10, 63, 0, 10),
  (63, .idiv, 64, 0, 0),
  (64, .iload 5, 66, 0, 0),
  (66, .bipush 10, 68, 0, 10),
  (68, .idiv, 69, 0, 0),
  (69, .isub, 70, 0, 0),
  (70, .invokestatic 69, 73, 0, 0),
  (73, .istore 6, 75, 0, 0),
  (75, .iload_n 2, 76, 0, 0),
  (76, .ifCond .eq 32, 79, 108, 0),
  (79, .iload 6, 81, 0, 0),
  (81, .ifCond .ne 23, 84, 104, 0),
  (84, .iload 5, 86, 0, 0),
  (86, .bipush 10, 88, 0, 10),
  (88, .irem, 89, 0, 0),
  (89, .bipush 9, 91, 0, 9),
  (91, .iload 4, 93, 0, 0),
  (93, .bipush 10, 95, 0, 10),
  (95, .irem, 96, 0, 0),
  (96, .isub, 97, 0, 0),
  (97, .if_icmp .ne 7, 100, 104, 0),
  (100, .iconst 1, 101, 0, 1),
  (101, .goto 33, 104, 134, 0),
  (104, .iconst 0, 105, 0, 0),
  (105, .goto 29, 108, 134, 0),
  (108, .iload 6, 110, 0, 0),
  (110, .iload 4, 112, 0, 0),
  (112, .bipush 10, 114, 0, 10),
  (114, .irem, 115, 0, 0),
  (115, .iload 5, 117, 0, 0),
  (117, .bipush 10, 119, 0, 10),
  (119, .irem, 120, 0, 0),
  (120, .isub, 121, 0, 0),
  (121, .invokestatic 69, 124, 0, 0),
  (124, .iadd, 125, 0, 0),
  (125, .iconst 1, 126, 0, 1),
  (126, .if_icmp .ne 7, 129, 133, 0),
  (129, .iconst 1, 130, 0, 1),
  (130, .goto 4, 133, 134, 0),
  (133, .iconst 0, 134, 0, 0),
  (134, .istore 7, 136, 0, 0),
  (136, .iload 7, 138, 0, 0),
  (138, .ifCond .eq 7, 141, 145, 0),
  (141, .iload_n 3, 142, 0, 0),
  (142, .goto 5, 145, 147, 0),
  (145, .bipush (-9), 147, 0, (-9)),
  (147, .ireturn, 148, 0, 0)]
set_option maxRecDepth 100000 in
theorem okX11_byKeys : tf_okT cX11_byKeys tX11_byKeys := by unfold tf_okT; decide +kernel
theorem ftX11_byKeys : 1 ≤ 2 ∧ tf_okF RX11 fX11 ∧ tf_okT cX11_byKeys tX11_byKeys := ⟨by decide, okfX11, okX11_byKeys⟩
def mX11_byKeys : tf_M := (yX11_byKeys, cX11_byKeys, 8, (some .int))

def tX11_earlyAt : tf_T := [(0, .aload_n 0, 1, 0, 0),
  (1, .invokevirtual 95, 4, 0, 0),
  (4, .istore_n 1, 5, 0, 0),
  (5, .iload_n 1, 6, 0, 0),
  (6, .ifCond .ge 6, 9, 12, 0),
  (9, .bipush (-9), 11, 0, (-9)),
  (11, .ireturn, 12, 0, 0),
  (12, .iload_n 1, 13, 0, 0),
  (13, .iconst 1, 14, 0, 1),
  (14, .iadd, 15, 0, 0),
  (15, .aload_n 0, 16, 0, 0),
  (16, .getfield 13, 19, 0, 0),
  (19, .sipush 364, 22, 0, 364),
  (22, .iaload, 23, 0, 0),
  (23, .if_icmp .ge 28, 26, 51, 0),
  (26, .aload_n 0, 27, 0, 0),
  (27, .getfield 13, 30, 0, 0),
  (30, .sipush 144, 33, 0, 144),
  (33, .iload_n 1, 34, 0, 0),
  (34, .iadd, 35, 0, 0),
  (35, .iconst 1, 36, 0, 1),
  (36, .iadd, 37, 0, 0),
  (37, .iaload, 38, 0, 0),
  (38, .aload_n 0, 39, 0, 0),
  (39, .getfield 13, 42, 0, 0),
  (42, .sipush 184, 45, 0, 184),
  (45, .iload_n 1, 46, 0, 0),
  (46, .iadd, 47, 0, 0),
  (47, .iaload, 48, 0, 0),
  (48, .if_icmp .eq 42, 51, 90, 0),
  (51, .iload_n 1, 52, 0, 0),
  (52, .iconst 2, 53, 0, 2),
  (53, .iadd, 54, 0, 0),
  (54, .aload_n 0, 55, 0, 0),
  (55, .getfield 13, 58, 0, 0),
  (58, .sipush 364, 61, 0, 364),
  (61, .iaload, 62, 0, 0),
  (62, .if_icmp .ge 32, 65, 94, 0),
  (65, .aload_n 0, 66, 0, 0),
  (66, .getfield 13, 69, 0, 0),
  (69, .sipush 144, 72, 0, 144),
  (72, .iload_n 1, 73, 0, 0),
  (73, .iadd, 74, 0, 0),
  (74, .iconst 2, 75, 0, 2),
  (75, .iadd, 76, 0, 0),
  (76, .iaload, 77, 0, 0),
  (77, .aload_n 0, 78, 0, 0),
  (78, .getfield 13, 81, 0, 0),
  (81, .sipush 184, 84, 0, 184),
  (84, .iload_n 1, 85, 0, 0),
  (85, .iadd, 86, 0, 0),
  (86, .iaload, 87, 0, 0),
  (87, .if_icmp .ne 7, 90, 94, 0),
  (90, .iload_n 1, 91, 0, 0),
  (91, .goto 5, 94, 96, 0),
  (94, .bipush (-9), 96, 0, (-9)),
  (96, .ireturn, 97, 0, 0)]
set_option maxRecDepth 100000 in
theorem okX11_earlyAt : tf_okT cX11_earlyAt tX11_earlyAt := by unfold tf_okT; decide +kernel
theorem ftX11_earlyAt : 1 ≤ 2 ∧ tf_okF RX11 fX11 ∧ tf_okT cX11_earlyAt tX11_earlyAt := ⟨by decide, okfX11, okX11_earlyAt⟩
def mX11_earlyAt : tf_M := (yX11_earlyAt, cX11_earlyAt, 2, (some .int))

def tX11_lostAt : tf_T := [(0, .aload_n 0, 1, 0, 0),
  (1, .getfield 13, 4, 0, 0),
  (4, .sipush 365, 7, 0, 365),
  (7, .iaload, 8, 0, 0),
  (8, .aload_n 0, 9, 0, 0),
  (9, .getfield 13, 12, 0, 0),
  (12, .sipush 364, 15, 0, 364),
  (15, .iaload, 16, 0, 0),
  (16, .iconst 1, 17, 0, 1),
  (17, .isub, 18, 0, 0),
  (18, .if_icmp .eq 6, 21, 24, 0),
  (21, .bipush (-9), 23, 0, (-9)),
  (23, .ireturn, 24, 0, 0),
  (24, .iconst 0, 25, 0, 0),
  (25, .istore_n 1, 26, 0, 0),
  (26, .iload_n 1, 27, 0, 0),
  (27, .aload_n 0, 28, 0, 0),
  (28, .getfield 13, 31, 0, 0),
  (31, .sipush 364, 34, 0, 364),
  (34, .iaload, 35, 0, 0),
  (35, .if_icmp .ge 81, 38, 116, 0),
  (38, .iconst 1, 39, 0, 1),
  (39, .istore_n 2, 40, 0, 0),
  (40, .iconst 0, 41, 0, 0),
  (41, .istore_n 3, 42, 0, 0),
  (42, .iload_n 3, 43, 0, 0),
  (43, .aload_n 0, 44, 0, 0),
  (44, .getfield 13, 47, 0, 0),
  (47, .sipush 365, 50, 0, 365),
  (50, .iaload, 51, 0, 0),
  (51, .if_icmp .ge 53, 54, 104, 0),
  (54, .iload_n 2, 55, 0, 0),
  (55, .ifCond .eq 41, 58, 96, 0),
  (58, .aload_n 0, 59, 0, 0),
  (59, .getfield 13, 62, 0, 0),
  (62, .sipush 184, 65, 0, 184),
  (65, .iload_n 3, 66, 0, 0),
  (66, .iadd, 67, 0, 0),
  (67, .iaload, 68, 0, 0),
  (68, .aload_n 0, 69, 0, 0),
  (69, .getfield 13, 72, 0, 0),
  (72, .sipush 144, 75, 0, 144),
  (75, .iload_n 3, 76, 0, 0),
  (76, .iload_n 1, 77, 0, 0),
  (77, .if_icmp .ge 7, 80, 84, 0),
  (80, .iload_n 3, 81, 0, 0),
  (81, .goto 6, 84, 87, 0),
  (84, .iload_n 3, 85, 0, 0),
  (85, .iconst 1, 86, 0, 1),
  (86, .iadd, 87, 0, 0),
  (87, .iadd, 88, 0, 0),
  (88, .iaload, 89, 0, 0),
  (89, .if_icmp .ne 7, 92, 96, 0),
  (92, .iconst 1, 93, 0, 1),
  (93, .goto 4, 96, 97, 0),
  (96, .iconst 0, 97, 0, 0),
  (97, .istore_n 2, 98, 0, 0),
  (98, .iinc 3 1, 101, 0, 1),
  (101, .goto (-59), 104, 42, 0),
  (104, .iload_n 2, 105, 0, 0),
  (105, .ifCond .eq 5, 108, 110, 0),
  (108, .iload_n 1, 109, 0, 0),
  (109, .ireturn, 110, 0, 0),
  (110, .iinc 1 1, 113, 0, 1),
  (113, .goto (-87), 116, 26, 0),
  (116, .bipush (-9), 118, 0, (-9)),
  (118, .ireturn, 119, 0, 0)]
set_option maxRecDepth 100000 in
theorem okX11_lostAt : tf_okT cX11_lostAt tX11_lostAt := by unfold tf_okT; decide +kernel
theorem ftX11_lostAt : 1 ≤ 1 ∧ tf_okF RX11 fX11 ∧ tf_okT cX11_lostAt tX11_lostAt := ⟨by decide, okfX11, okX11_lostAt⟩
def mX11_lostAt : tf_M := (yX11_lostAt, cX11_lostAt, 4, (some .int))

def tX11_caughtAt : tf_T := [(0, .aload_n 0, 1, 0, 0),
  (1, .getfield 13, 4, 0, 0),
  (4, .sipush 365, 7, 0, 365),
  (7, .iaload, 8, 0, 0),
  (8, .aload_n 0, 9, 0, 0),
  (9, .getfield 13, 12, 0, 0),
  (12, .sipush 364, 15, 0, 364),
  (15, .iaload, 16, 0, 0),
  (16, .iconst 2, 17, 0, 2),
  (17, .iadd, 18, 0, 0),
  (18, .if_icmp .eq 6, 21, 24, 0),
  (21, .bipush (-9), 23, 0, (-9)),
  (23, .ireturn, 24, 0, 0),
  (24, .iconst 0, 25, 0, 0),
  (25, .istore_n 1, 26, 0, 0),
  (26, .iload_n 1, 27, 0, 0),
  (27, .aload_n 0, 28, 0, 0),
  (28, .getfield 13, 31, 0, 0),
  (31, .sipush 364, 34, 0, 364),
  (34, .iaload, 35, 0, 0),
  (35, .if_icmp .ge 140, 38, 175, 0),
  (38, .aload_n 0, 39, 0, 0),
  (39, .getfield 13, 42, 0, 0),
  (42, .sipush 184, 45, 0, 184),
  (45, .iload_n 1, 46, 0, 0),
  (46, .iadd, 47, 0, 0),
  (47, .iaload, 48, 0, 0),
  (48, .bipush 26, 50, 0, 26),
  (50, .if_icmp .eq 47, 53, 97, 0),
  (53, .aload_n 0, 54, 0, 0),
  (54, .getfield 13, 57, 0, 0),
  (57, .sipush 184, 60, 0, 184),
  (60, .iload_n 1, 61, 0, 0),
  (61, .iadd, 62, 0, 0),
  (62, .iaload, 63, 0, 0),
  (63, .aload_n 0, 64, 0, 0),
  (64, .getfield 13, 67, 0, 0),
  (67, .sipush 144, 70, 0, 144),
  (70, .iload_n 1, 71, 0, 0),
  (71, .iadd, 72, 0, 0),
  (72, .iaload, 73, 0, 0),
  (73, .if_icmp .eq 24, 76, 97, 0),
  (76, .aload_n 0, 77, 0, 0),
  (77, .getfield 13, 80, 0, 0),
  (80, .sipush 184, 83, 0, 184),
  (83, .iload_n 1, 84, 0, 0),
  (84, .iadd, 85, 0, 0),
  (85, .iconst 1, 86, 0, 1),
  (86, .iadd, 87, 0, 0),
  (87, .iaload, 88, 0, 0),
  (88, .bipush 26, 90, 0, 26),
  (90, .if_icmp .ne 7, 93, 97, 0),
  (93, .iconst 1, 94, 0, 1),
  (94, .goto 4, 97, 98, 0),
  (97, .iconst 0, 98, 0, 0),
  (98, .istore_n 2, 99, 0, 0),
  (99, .iconst 0, 100, 0, 0),
  (100, .istore_n 3, 101, 0, 0),
  (101, .iload_n 3, 102, 0, 0),
  (102, .aload_n 0, 103, 0, 0),
  (103, .getfield 13, 106, 0, 0),
  (106, .sipush 364, 109, 0, 364),
  (109, .iaload, 110, 0, 0),
  (110, .if_icmp .ge 53, 113, 163, 0),
  (113, .iload_n 2, 114, 0, 0),
  (114, .ifCond .eq 41, 117, 155, 0),
  (117, .aload_n 0, 118, 0, 0),
  (118, .getfield 13, 121, 0, 0),
  (121, .sipush 184, 124, 0, 184),
  (124, .iload_n 3, 125, 0, 0),
  (125, .iload_n 1, 126, 0, 0),
  (126, .if_icmp .ge 7, 129, 133, 0),
  (129, .iload_n 3, 130, 0, 0),
  (130, .goto 6, 133, 136, 0),
  (133, .iload_n 3, 134, 0, 0),
  (134, .iconst 2, 135, 0, 2),
  (135, .iadd, 136, 0, 0),
  (136, .iadd, 137, 0, 0),
  (137, .iaload, 138, 0, 0),
  (138, .aload_n 0, 139, 0, 0),
  (139, .getfield 13, 142, 0, 0),
  (142, .sipush 144, 145, 0, 144),
  (145, .iload_n 3, 146, 0, 0),
  (146, .iadd, 147, 0, 0),
  (147, .iaload, 148, 0, 0),
  (148, .if_icmp .ne 7, 151, 155, 0),
  (151, .iconst 1, 152, 0, 1),
  (152, .goto 4, 155, 156, 0),
  (155, .iconst 0, 156, 0, 0),
  (156, .istore_n 2, 157, 0, 0),
  (157, .iinc 3 1, 160, 0, 1),
  (160, .goto (-59), 163, 101, 0),
  (163, .iload_n 2, 164, 0, 0),
  (164, .ifCond .eq 5, 167, 169, 0),
  (167, .iload_n 1, 168, 0, 0),
  (168, .ireturn, 169, 0, 0),
  (169, .iinc 1 1, 172, 0, 1),
  (172, .goto (-146), 175, 26, 0),
  (175, .bipush (-9), 177, 0, (-9)),
  (177, .ireturn, 178, 0, 0)]
set_option maxRecDepth 100000 in
theorem okX11_caughtAt : tf_okT cX11_caughtAt tX11_caughtAt := by unfold tf_okT; decide +kernel
theorem ftX11_caughtAt : 1 ≤ 1 ∧ tf_okF RX11 fX11 ∧ tf_okT cX11_caughtAt tX11_caughtAt := ⟨by decide, okfX11, okX11_caughtAt⟩
def mX11_caughtAt : tf_M := (yX11_caughtAt, cX11_caughtAt, 4, (some .int))

def tX11_whereOf : tf_T := [(0, .iload_n 2, 1, 0, 0),
  (1, .tableswitch 82 0 6 #[43, 48, 53, 58, 65, 72, 77], 44, 0, 0),
  (44, .aload_n 0, 45, 0, 0),
  (45, .invokevirtual 95, 48, 0, 0),
  (48, .ireturn, 49, 0, 0),
  (49, .aload_n 0, 50, 0, 0),
  (50, .invokevirtual 98, 53, 0, 0),
  (53, .ireturn, 54, 0, 0),
  (54, .aload_n 0, 55, 0, 0),
  (55, .invokevirtual 101, 58, 0, 0),
  (58, .ireturn, 59, 0, 0),
  (59, .aload_n 0, 60, 0, 0),
  (60, .iload_n 1, 61, 0, 0),
  (61, .iconst 1, 62, 0, 1),
  (62, .invokevirtual 104, 65, 0, 0),
  (65, .ireturn, 66, 0, 0),
  (66, .aload_n 0, 67, 0, 0),
  (67, .iload_n 1, 68, 0, 0),
  (68, .iconst 0, 69, 0, 0),
  (69, .invokevirtual 104, 72, 0, 0),
  (72, .ireturn, 73, 0, 0),
  (73, .aload_n 0, 74, 0, 0),
  (74, .invokevirtual 107, 77, 0, 0),
  (77, .ireturn, 78, 0, 0),
  (78, .aload_n 0, 79, 0, 0),
  (79, .invokevirtual 110, 82, 0, 0),
  (82, .ireturn, 83, 0, 0),
  (83, .aload_n 0, 84, 0, 0),
  (84, .invokevirtual 113, 87, 0, 0),
  (87, .ireturn, 88, 0, 0)]
set_option maxRecDepth 100000 in
theorem okX11_whereOf : tf_okT cX11_whereOf tX11_whereOf := by unfold tf_okT; decide +kernel
theorem ftX11_whereOf : 1 ≤ 3 ∧ tf_okF RX11 fX11 ∧ tf_okT cX11_whereOf tX11_whereOf := ⟨by decide, okfX11, okX11_whereOf⟩
def mX11_whereOf : tf_M := (yX11_whereOf, cX11_whereOf, 3, (some .int))

set_option maxRecDepth 100000 in
theorem lX11_95 : tf_okV RX11 95 0 8 mX11_slipAt := by unfold tf_okV tf_okL; decide +kernel

set_option maxRecDepth 100000 in
theorem lX11_98 : tf_okV RX11 98 0 8 mX11_swapAt := by unfold tf_okV tf_okL; decide +kernel

set_option maxRecDepth 100000 in
theorem lX11_101 : tf_okV RX11 101 0 8 mX11_doubleAt := by unfold tf_okV tf_okL; decide +kernel

set_option maxRecDepth 100000 in
theorem lX11_104 : tf_okV RX11 104 2 8 mX11_byKeys := by unfold tf_okV tf_okL; decide +kernel

set_option maxRecDepth 100000 in
theorem lX11_107 : tf_okV RX11 107 0 8 mX11_earlyAt := by unfold tf_okV tf_okL; decide +kernel

set_option maxRecDepth 100000 in
theorem lX11_110 : tf_okV RX11 110 0 8 mX11_lostAt := by unfold tf_okV tf_okL; decide +kernel

set_option maxRecDepth 100000 in
theorem lX11_113 : tf_okV RX11 113 0 8 mX11_caughtAt := by unfold tf_okV tf_okL; decide +kernel

set_option maxHeartbeats 1000000 in
theorem m_slipAt {G : tf_G} {S : tf_Sg} {o : Nat} {f : Nat → Nat} (ho : tf_mo G o) (hf : tf_sf G S o f) (hg : tf_gd f) : tf_Fn mX11_slipAt 1 0 0 G S [.ref o] G S (some (.int (tf_on 41 (tf_sl f)))) := by
  obtain ⟨h1, ⟨r0, t0, n0⟩, ⟨r1, t1, n1⟩, ⟨r2, t2, n2⟩, ⟨r4, t4, n4⟩⟩ := id ho
  obtain ⟨hs, hb⟩ := id hf
  obtain ⟨⟨g1, g2, g3, g4⟩, g5, g6, g7, g8, g9, g10, g11⟩ := id hg
  refine tf_Fn_of (own := RX11) false ⟨by decide, rfl, by decide⟩ (Nat.le_of_ble_eq_true rfl) trivial (fun x hx hR => ?_)
  show tf_K x 0 0 G S 0 [some (.ref o), none, none] []
  refine tf_go hx ftX11_slipAt 8 [] 16 [some (.ref o), none, none] [.int (S (tf_rf G o 1) (Int32.toNatClampNeg 364)), .int (S (tf_rf G o 1) (Int32.toNatClampNeg 365))] S rfl ⟨by decide, by decide, rfl⟩ ⟨⟨⟨⟨trivial, ⟨by first | assumption | rfl | decide | omega, by first | assumption | rfl | decide | omega⟩⟩, ⟨Or.inl (by first | assumption | rfl | decide | omega), by first | assumption | exact tf_in (n := 365) (rfl : (365 : Int32) = nI 365) (by first | assumption | rfl) (by omega) (by decide)⟩⟩, ⟨by first | assumption | rfl | decide | omega, by first | assumption | rfl | decide | omega⟩⟩, ⟨Or.inl (by first | assumption | rfl | decide | omega), by first | assumption | exact tf_in (n := 364) (rfl : (364 : Int32) = nI 364) (by first | assumption | rfl) (by omega) (by decide)⟩⟩ ?_
  rw [show (S (tf_rf G o 1) (Int32.toNatClampNeg 364)) = nI (f 364) from (tf_rd hs (rfl : (364 : Int32) = nI 364) (by omega))]
  rw [show (S (tf_rf G o 1) (Int32.toNatClampNeg 365)) = nI (f 365) from (tf_rd hs (rfl : (365 : Int32) = nI 365) (by omega))]
  by_cases c1 : f 365 = f 364
  · refine tf_go hx ftX11_slipAt 1 [true] 22 [some (.ref o), none, none] [] S rfl ⟨by decide, by decide, rfl⟩ ⟨trivial, (tf_eqT (a := (f 365)) (b := (f 364)) rfl rfl (by have := hb 365; have := hb 364; omega))⟩ ?_
    refine tf_go hx ftX11_slipAt 4 [] 27 [some (.ref o), some (.int (-9)), some (.int 0)] [] S rfl ⟨by decide, by decide, rfl⟩ trivial ?_
    have second : ∀ (p : Nat), p < f 364 → tf_fst (tf_df f) (f 364) 0 = p → ∀ (m k : Nat), k + m = f 364 → p < k → tf_fst (tf_df f) m k = tf_fst (tf_df f) (f 364 - (p + 1)) (p + 1) → tf_K x 0 0 G S 27 [some (.ref o), some (.int (nI p)), some (.int (nI k))] [] := by
      intro p hp hd m
      induction m with
      | zero =>
        intro k hk hpk he
        rw [tf_fst_0] at he
        have e1 : k = f 364 := by omega
        refine tf_go hx ftX11_slipAt 5 [] 36 [some (.ref o), some (.int (nI p)), some (.int (nI k))] [.int (S (tf_rf G o 1) (Int32.toNatClampNeg 364)), .int (nI k)] S rfl ⟨by decide, by decide, rfl⟩ ⟨⟨trivial, ⟨by first | assumption | rfl | decide | omega, by first | assumption | rfl | decide | omega⟩⟩, ⟨Or.inl (by first | assumption | rfl | decide | omega), by first | assumption | exact tf_in (n := 364) (rfl : (364 : Int32) = nI 364) (by first | assumption | rfl) (by omega) (by decide)⟩⟩ ?_
        rw [show (S (tf_rf G o 1) (Int32.toNatClampNeg 364)) = nI (f 364) from (tf_rd hs (rfl : (364 : Int32) = nI 364) (by omega))]
        refine tf_go hx ftX11_slipAt 1 [true] 80 [some (.ref o), some (.int (nI p)), some (.int (nI k))] [] S rfl ⟨by decide, by decide, rfl⟩ ⟨trivial, (tf_leT (a := (f 364)) (b := k) rfl rfl (by have := hb 364; omega) (by have := hb 364; omega) (by have := hb 364; omega))⟩ ?_
        refine tf_go hx ftX11_slipAt 1 [] 81 [some (.ref o), some (.int (nI p)), some (.int (nI k))] [.int (nI p)] S rfl ⟨by decide, by decide, rfl⟩ trivial ?_
        refine tf_go hx ftX11_slipAt 1 [false] 84 [some (.ref o), some (.int (nI p)), some (.int (nI k))] [] S rfl ⟨by decide, by decide, rfl⟩ ⟨trivial, (tf_ltF (a := p) (b := 0) rfl (rfl : (0 : Int32) = nI 0) (by omega) (by omega) (by omega))⟩ ?_
        refine tf_go hx ftX11_slipAt 7 [] 96 [some (.ref o), some (.int (nI p)), some (.int (nI k))] [.int 26, .int (S (tf_rf G o 1) (Int32.toNatClampNeg (184 + (nI p))))] S rfl ⟨by decide, by decide, rfl⟩ ⟨⟨trivial, ⟨by first | assumption | rfl | decide | omega, by first | assumption | rfl | decide | omega⟩⟩, ⟨Or.inl (by first | assumption | rfl | decide | omega), by first | assumption | exact tf_in (n := (184 + p)) (tf_add (rfl : (184 : Int32) = nI 184) rfl) (by first | assumption | rfl) (by omega) (by decide)⟩⟩ ?_
        rw [show (S (tf_rf G o 1) (Int32.toNatClampNeg (184 + (nI p)))) = nI (f (184 + p)) from (tf_rd hs (tf_add (rfl : (184 : Int32) = nI 184) rfl) (by omega))]
        by_cases c2 : f (184 + p) = 26
        · refine tf_go hx ftX11_slipAt 2 [true] 105 [some (.ref o), some (.int (nI p)), some (.int (nI k))] [.int (-9)] S rfl ⟨by decide, by decide, rfl⟩ ⟨trivial, (tf_eqT (a := (f (184 + p))) (b := 26) rfl (rfl : (26 : Int32) = nI 26) (by have := hb (184 + p); omega))⟩ ?_
          exact tf_ret ftX11_slipAt hR rfl ⟨by decide, by decide⟩ rfl rfl (by unfold tf_sl tf_dn; rw [hd, if_neg (by rintro ⟨-, -, -, h⟩; exact h c2)]; rfl)
        · refine tf_go hx ftX11_slipAt 3 [false] 105 [some (.ref o), some (.int (nI p)), some (.int (nI k))] [.int (nI p)] S rfl ⟨by decide, by decide, rfl⟩ ⟨trivial, (tf_eqF (a := (f (184 + p))) (b := 26) rfl (rfl : (26 : Int32) = nI 26) (by have := hb (184 + p); omega) (by have := hb (184 + p); omega) (by have := hb (184 + p); omega))⟩ ?_
          exact tf_ret ftX11_slipAt hR rfl ⟨by decide, by decide⟩ rfl rfl (by unfold tf_sl tf_dn; rw [hd, if_pos ⟨c1, hp, by omega, c2⟩, tf_on_y (by omega)]; rfl)
      | succ m ih =>
        intro k hk hpk he
        refine tf_go hx ftX11_slipAt 5 [] 36 [some (.ref o), some (.int (nI p)), some (.int (nI k))] [.int (S (tf_rf G o 1) (Int32.toNatClampNeg 364)), .int (nI k)] S rfl ⟨by decide, by decide, rfl⟩ ⟨⟨trivial, ⟨by first | assumption | rfl | decide | omega, by first | assumption | rfl | decide | omega⟩⟩, ⟨Or.inl (by first | assumption | rfl | decide | omega), by first | assumption | exact tf_in (n := 364) (rfl : (364 : Int32) = nI 364) (by first | assumption | rfl) (by omega) (by decide)⟩⟩ ?_
        rw [show (S (tf_rf G o 1) (Int32.toNatClampNeg 364)) = nI (f 364) from (tf_rd hs (rfl : (364 : Int32) = nI 364) (by omega))]
        refine tf_go hx ftX11_slipAt 1 [false] 39 [some (.ref o), some (.int (nI p)), some (.int (nI k))] [] S rfl ⟨by decide, by decide, rfl⟩ ⟨trivial, (tf_leF (a := (f 364)) (b := k) rfl rfl (by have := hb 364; omega) (by have := hb 364; omega) (by have := hb 364; omega))⟩ ?_
        refine tf_go hx ftX11_slipAt 12 [] 59 [some (.ref o), some (.int (nI p)), some (.int (nI k))] [.int (S (tf_rf G o 1) (Int32.toNatClampNeg (184 + (nI k)))), .int (S (tf_rf G o 1) (Int32.toNatClampNeg (144 + (nI k))))] S rfl ⟨by decide, by decide, rfl⟩ ⟨⟨⟨⟨trivial, ⟨by first | assumption | rfl | decide | omega, by first | assumption | rfl | decide | omega⟩⟩, ⟨Or.inl (by first | assumption | rfl | decide | omega), by first | assumption | exact tf_in (n := (144 + k)) (tf_add (rfl : (144 : Int32) = nI 144) rfl) (by first | assumption | rfl) (by omega) (by decide)⟩⟩, ⟨by first | assumption | rfl | decide | omega, by first | assumption | rfl | decide | omega⟩⟩, ⟨Or.inl (by first | assumption | rfl | decide | omega), by first | assumption | exact tf_in (n := (184 + k)) (tf_add (rfl : (184 : Int32) = nI 184) rfl) (by first | assumption | rfl) (by omega) (by decide)⟩⟩ ?_
        rw [show (S (tf_rf G o 1) (Int32.toNatClampNeg (184 + (nI k)))) = nI (f (184 + k)) from (tf_rd hs (tf_add (rfl : (184 : Int32) = nI 184) rfl) (by omega))]
        rw [show (S (tf_rf G o 1) (Int32.toNatClampNeg (144 + (nI k)))) = nI (f (144 + k)) from (tf_rd hs (tf_add (rfl : (144 : Int32) = nI 144) rfl) (by omega))]
        by_cases c2 : f (144 + k) = f (184 + k)
        · refine tf_go hx ftX11_slipAt 4 [false] 27 [some (.ref o), some (.int (nI p)), some (.int ((nI k) + 1))] [] S rfl ⟨by decide, by decide, rfl⟩ ⟨trivial, (tf_neF (a := (f (144 + k))) (b := (f (184 + k))) rfl rfl (by have := hb (144 + k); have := hb (184 + k); omega))⟩ ?_
          rw [show ((nI k) + 1) = nI (k + 1) from (tf_add rfl (rfl : (1 : Int32) = nI 1))]
          exact ih (k + 1) (by omega) (by omega) (by rw [← he, tf_fst_n (by unfold tf_df; simpa using c2)])
        · refine tf_go hx ftX11_slipAt 1 [true] 65 [some (.ref o), some (.int (nI p)), some (.int (nI k))] [] S rfl ⟨by decide, by decide, rfl⟩ ⟨trivial, (tf_eqF (a := (f (144 + k))) (b := (f (184 + k))) rfl rfl (by have := hb (144 + k); have := hb (184 + k); omega) (by have := hb (144 + k); have := hb (184 + k); omega) (by have := hb (144 + k); have := hb (184 + k); omega))⟩ ?_
          refine tf_go hx ftX11_slipAt 1 [] 66 [some (.ref o), some (.int (nI p)), some (.int (nI k))] [.int (nI p)] S rfl ⟨by decide, by decide, rfl⟩ trivial ?_
          refine tf_go hx ftX11_slipAt 2 [false] 71 [some (.ref o), some (.int (nI p)), some (.int (nI k))] [.int (-9)] S rfl ⟨by decide, by decide, rfl⟩ ⟨trivial, (tf_ltF (a := p) (b := 0) rfl (rfl : (0 : Int32) = nI 0) (by omega) (by omega) (by omega))⟩ ?_
          exact tf_ret ftX11_slipAt hR rfl ⟨by decide, by decide⟩ rfl rfl (by rw [tf_fst_y (by unfold tf_df; simpa using c2)] at he; unfold tf_sl tf_dn; rw [hd, if_neg (by rintro ⟨-, -, h, -⟩; omega)]; rfl)
    have loop : ∀ (m k : Nat), k + m = (f 364) → (tf_fst (tf_df f) m k = tf_fst (tf_df f) (f 364) 0) → tf_K x 0 0 G S 27 [some (.ref o), some (.int (-9)), some (.int (nI k))] [] := by
      intro m
      induction m with
      | zero =>
        intro k hk he
        rw [tf_fst_0] at he
        refine tf_go hx ftX11_slipAt 5 [] 36 [some (.ref o), some (.int (-9)), some (.int (nI k))] [.int (S (tf_rf G o 1) (Int32.toNatClampNeg 364)), .int (nI k)] S rfl ⟨by decide, by decide, rfl⟩ ⟨⟨trivial, ⟨by first | assumption | rfl | decide | omega, by first | assumption | rfl | decide | omega⟩⟩, ⟨Or.inl (by first | assumption | rfl | decide | omega), by first | assumption | exact tf_in (n := 364) (rfl : (364 : Int32) = nI 364) (by first | assumption | rfl) (by omega) (by decide)⟩⟩ ?_
        rw [show (S (tf_rf G o 1) (Int32.toNatClampNeg 364)) = nI (f 364) from (tf_rd hs (rfl : (364 : Int32) = nI 364) (by omega))]
        refine tf_go hx ftX11_slipAt 1 [true] 80 [some (.ref o), some (.int (-9)), some (.int (nI k))] [] S rfl ⟨by decide, by decide, rfl⟩ ⟨trivial, (tf_leT (a := (f 364)) (b := k) rfl rfl (by have := hb 364; omega) (by have := hb 364; omega) (by have := hb 364; omega))⟩ ?_
        refine tf_go hx ftX11_slipAt 1 [] 81 [some (.ref o), some (.int (-9)), some (.int (nI k))] [.int (-9)] S rfl ⟨by decide, by decide, rfl⟩ trivial ?_
        refine tf_go hx ftX11_slipAt 2 [true] 105 [some (.ref o), some (.int (-9)), some (.int (nI k))] [.int (-9)] S rfl ⟨by decide, by decide, rfl⟩ ⟨trivial, (by decide)⟩ ?_
        exact tf_ret ftX11_slipAt hR rfl ⟨by decide, by decide⟩ rfl rfl (by unfold tf_sl tf_dn; rw [← he, if_neg (by rintro ⟨-, h, -⟩; omega)]; rfl)
      | succ m ih =>
        intro k hk he
        refine tf_go hx ftX11_slipAt 5 [] 36 [some (.ref o), some (.int (-9)), some (.int (nI k))] [.int (S (tf_rf G o 1) (Int32.toNatClampNeg 364)), .int (nI k)] S rfl ⟨by decide, by decide, rfl⟩ ⟨⟨trivial, ⟨by first | assumption | rfl | decide | omega, by first | assumption | rfl | decide | omega⟩⟩, ⟨Or.inl (by first | assumption | rfl | decide | omega), by first | assumption | exact tf_in (n := 364) (rfl : (364 : Int32) = nI 364) (by first | assumption | rfl) (by omega) (by decide)⟩⟩ ?_
        rw [show (S (tf_rf G o 1) (Int32.toNatClampNeg 364)) = nI (f 364) from (tf_rd hs (rfl : (364 : Int32) = nI 364) (by omega))]
        refine tf_go hx ftX11_slipAt 1 [false] 39 [some (.ref o), some (.int (-9)), some (.int (nI k))] [] S rfl ⟨by decide, by decide, rfl⟩ ⟨trivial, (tf_leF (a := (f 364)) (b := k) rfl rfl (by have := hb 364; omega) (by have := hb 364; omega) (by have := hb 364; omega))⟩ ?_
        refine tf_go hx ftX11_slipAt 12 [] 59 [some (.ref o), some (.int (-9)), some (.int (nI k))] [.int (S (tf_rf G o 1) (Int32.toNatClampNeg (184 + (nI k)))), .int (S (tf_rf G o 1) (Int32.toNatClampNeg (144 + (nI k))))] S rfl ⟨by decide, by decide, rfl⟩ ⟨⟨⟨⟨trivial, ⟨by first | assumption | rfl | decide | omega, by first | assumption | rfl | decide | omega⟩⟩, ⟨Or.inl (by first | assumption | rfl | decide | omega), by first | assumption | exact tf_in (n := (144 + k)) (tf_add (rfl : (144 : Int32) = nI 144) rfl) (by first | assumption | rfl) (by omega) (by decide)⟩⟩, ⟨by first | assumption | rfl | decide | omega, by first | assumption | rfl | decide | omega⟩⟩, ⟨Or.inl (by first | assumption | rfl | decide | omega), by first | assumption | exact tf_in (n := (184 + k)) (tf_add (rfl : (184 : Int32) = nI 184) rfl) (by first | assumption | rfl) (by omega) (by decide)⟩⟩ ?_
        rw [show (S (tf_rf G o 1) (Int32.toNatClampNeg (184 + (nI k)))) = nI (f (184 + k)) from (tf_rd hs (tf_add (rfl : (184 : Int32) = nI 184) rfl) (by omega))]
        rw [show (S (tf_rf G o 1) (Int32.toNatClampNeg (144 + (nI k)))) = nI (f (144 + k)) from (tf_rd hs (tf_add (rfl : (144 : Int32) = nI 144) rfl) (by omega))]
        by_cases c2 : f (144 + k) = f (184 + k)
        · refine tf_go hx ftX11_slipAt 4 [false] 27 [some (.ref o), some (.int (-9)), some (.int ((nI k) + 1))] [] S rfl ⟨by decide, by decide, rfl⟩ ⟨trivial, (tf_neF (a := (f (144 + k))) (b := (f (184 + k))) rfl rfl (by have := hb (144 + k); have := hb (184 + k); omega))⟩ ?_
          rw [show ((nI k) + 1) = nI (k + 1) from (tf_add rfl (rfl : (1 : Int32) = nI 1))]
          exact ih (k + 1) (by omega) (by rw [← he, tf_fst_n (by unfold tf_df; simpa using c2)])
        · rw [tf_fst_y (by unfold tf_df; simpa using c2)] at he
          refine tf_go hx ftX11_slipAt 1 [true] 65 [some (.ref o), some (.int (-9)), some (.int (nI k))] [] S rfl ⟨by decide, by decide, rfl⟩ ⟨trivial, (tf_eqF (a := (f (144 + k))) (b := (f (184 + k))) rfl rfl (by have := hb (144 + k); have := hb (184 + k); omega) (by have := hb (144 + k); have := hb (184 + k); omega) (by have := hb (144 + k); have := hb (184 + k); omega))⟩ ?_
          refine tf_go hx ftX11_slipAt 1 [] 66 [some (.ref o), some (.int (-9)), some (.int (nI k))] [.int (-9)] S rfl ⟨by decide, by decide, rfl⟩ trivial ?_
          refine tf_go hx ftX11_slipAt 5 [true] 27 [some (.ref o), some (.int (nI k)), some (.int ((nI k) + 1))] [] S rfl ⟨by decide, by decide, rfl⟩ ⟨trivial, (by decide)⟩ ?_
          rw [show ((nI k) + 1) = nI (k + 1) from (tf_add rfl (rfl : (1 : Int32) = nI 1))]
          exact second k (by omega) he.symm m (k + 1) (by omega) (by omega) (by rw [show f 364 - (k + 1) = m by omega])
    exact loop (f 364) 0 (by omega) rfl
  · refine tf_go hx ftX11_slipAt 2 [false] 21 [some (.ref o), none, none] [.int (-9)] S rfl ⟨by decide, by decide, rfl⟩ ⟨trivial, (tf_eqF (a := (f 365)) (b := (f 364)) rfl rfl (by have := hb 365; have := hb 364; omega) (by have := hb 365; have := hb 364; omega) (by have := hb 365; have := hb 364; omega))⟩ ?_
    exact tf_ret ftX11_slipAt hR rfl ⟨by decide, by decide⟩ rfl rfl (by unfold tf_sl; rw [if_neg (by rintro ⟨h, -⟩; exact c1 h)]; rfl)

set_option maxHeartbeats 1000000 in
theorem m_swapAt {G : tf_G} {S : tf_Sg} {o : Nat} {f : Nat → Nat} (ho : tf_mo G o) (hf : tf_sf G S o f) (hg : tf_gd f) : tf_Fn mX11_swapAt 1 0 0 G S [.ref o] G S (some (.int (tf_on 41 (tf_sw f)))) := by
  obtain ⟨h1, ⟨r0, t0, n0⟩, ⟨r1, t1, n1⟩, ⟨r2, t2, n2⟩, ⟨r4, t4, n4⟩⟩ := id ho
  obtain ⟨hs, hb⟩ := id hf
  obtain ⟨⟨g1, g2, g3, g4⟩, g5, g6, g7, g8, g9, g10, g11⟩ := id hg
  refine tf_Fn_of (own := RX11) false ⟨by decide, rfl, by decide⟩ (Nat.le_of_ble_eq_true rfl) trivial (fun x hx hR => ?_)
  show tf_K x 0 0 G S 0 [some (.ref o), none, none] []
  refine tf_go hx ftX11_swapAt 8 [] 16 [some (.ref o), none, none] [.int (S (tf_rf G o 1) (Int32.toNatClampNeg 364)), .int (S (tf_rf G o 1) (Int32.toNatClampNeg 365))] S rfl ⟨by decide, by decide, rfl⟩ ⟨⟨⟨⟨trivial, ⟨by first | assumption | rfl | decide | omega, by first | assumption | rfl | decide | omega⟩⟩, ⟨Or.inl (by first | assumption | rfl | decide | omega), by first | assumption | exact tf_in (n := 365) (rfl : (365 : Int32) = nI 365) (by first | assumption | rfl) (by omega) (by decide)⟩⟩, ⟨by first | assumption | rfl | decide | omega, by first | assumption | rfl | decide | omega⟩⟩, ⟨Or.inl (by first | assumption | rfl | decide | omega), by first | assumption | exact tf_in (n := 364) (rfl : (364 : Int32) = nI 364) (by first | assumption | rfl) (by omega) (by decide)⟩⟩ ?_
  rw [show (S (tf_rf G o 1) (Int32.toNatClampNeg 364)) = nI (f 364) from (tf_rd hs (rfl : (364 : Int32) = nI 364) (by omega))]
  rw [show (S (tf_rf G o 1) (Int32.toNatClampNeg 365)) = nI (f 365) from (tf_rd hs (rfl : (365 : Int32) = nI 365) (by omega))]
  by_cases c1 : f 365 = f 364
  · refine tf_go hx ftX11_swapAt 1 [true] 22 [some (.ref o), none, none] [] S rfl ⟨by decide, by decide, rfl⟩ ⟨trivial, (tf_eqT (a := (f 365)) (b := (f 364)) rfl rfl (by have := hb 365; have := hb 364; omega))⟩ ?_
    refine tf_go hx ftX11_swapAt 2 [] 24 [some (.ref o), some (.int 0), none] [] S rfl ⟨by decide, by decide, rfl⟩ trivial ?_
    have p0 := tf_fst_le (tf_df f) (f 364) 0
    have hp : tf_fst (tf_df f) (f 364) 0 = tf_dn f (f 364) := rfl
    rw [hp] at p0
    generalize hP : tf_dn f (f 364) = p at *
    have tail : tf_K x 0 0 G S 65 [some (.ref o), some (.int (nI p)), none] [] := by
      refine tf_go hx ftX11_swapAt 7 [] 76 [some (.ref o), some (.int (nI p)), none] [.int (S (tf_rf G o 1) (Int32.toNatClampNeg 364)), .int ((nI p) + 1)] S rfl ⟨by decide, by decide, rfl⟩ ⟨⟨trivial, ⟨by first | assumption | rfl | decide | omega, by first | assumption | rfl | decide | omega⟩⟩, ⟨Or.inl (by first | assumption | rfl | decide | omega), by first | assumption | exact tf_in (n := 364) (rfl : (364 : Int32) = nI 364) (by first | assumption | rfl) (by omega) (by decide)⟩⟩ ?_
      rw [show (S (tf_rf G o 1) (Int32.toNatClampNeg 364)) = nI (f 364) from (tf_rd hs (rfl : (364 : Int32) = nI 364) (by omega))]
      rw [show ((nI p) + 1) = nI (p + 1) from (tf_add rfl (rfl : (1 : Int32) = nI 1))]
      by_cases c2 : p + 1 < f 364
      · refine tf_go hx ftX11_swapAt 1 [false] 79 [some (.ref o), some (.int (nI p)), none] [] S rfl ⟨by decide, by decide, rfl⟩ ⟨trivial, (tf_leF (a := (f 364)) (b := (p + 1)) rfl rfl (by have := hb 364; omega) (by have := hb 364; omega) (by have := hb 364; omega))⟩ ?_
        refine tf_go hx ftX11_swapAt 14 [] 101 [some (.ref o), some (.int (nI p)), none] [.int (S (tf_rf G o 1) (Int32.toNatClampNeg ((184 + (nI p)) + 1))), .int (S (tf_rf G o 1) (Int32.toNatClampNeg (144 + (nI p))))] S rfl ⟨by decide, by decide, rfl⟩ ⟨⟨⟨⟨trivial, ⟨by first | assumption | rfl | decide | omega, by first | assumption | rfl | decide | omega⟩⟩, ⟨Or.inl (by first | assumption | rfl | decide | omega), by first | assumption | exact tf_in (n := (144 + p)) (tf_add (rfl : (144 : Int32) = nI 144) rfl) (by first | assumption | rfl) (by omega) (by decide)⟩⟩, ⟨by first | assumption | rfl | decide | omega, by first | assumption | rfl | decide | omega⟩⟩, ⟨Or.inl (by first | assumption | rfl | decide | omega), by first | assumption | exact tf_in (n := ((184 + p) + 1)) (tf_add (tf_add (rfl : (184 : Int32) = nI 184) rfl) (rfl : (1 : Int32) = nI 1)) (by first | assumption | rfl) (by omega) (by decide)⟩⟩ ?_
        rw [show (S (tf_rf G o 1) (Int32.toNatClampNeg ((184 + (nI p)) + 1))) = nI (f ((184 + p) + 1)) from (tf_rd hs (tf_add (tf_add (rfl : (184 : Int32) = nI 184) rfl) (rfl : (1 : Int32) = nI 1)) (by omega))]
        rw [show (S (tf_rf G o 1) (Int32.toNatClampNeg (144 + (nI p)))) = nI (f (144 + p)) from (tf_rd hs (tf_add (rfl : (144 : Int32) = nI 144) rfl) (by omega))]
        by_cases c3 : f (144 + p) = f (184 + p + 1)
        · refine tf_go hx ftX11_swapAt 1 [false] 104 [some (.ref o), some (.int (nI p)), none] [] S rfl ⟨by decide, by decide, rfl⟩ ⟨trivial, (tf_neF (a := (f (144 + p))) (b := (f ((184 + p) + 1))) rfl rfl (by have := hb (144 + p); have := hb ((184 + p) + 1); omega))⟩ ?_
          refine tf_go hx ftX11_swapAt 14 [] 126 [some (.ref o), some (.int (nI p)), none] [.int (S (tf_rf G o 1) (Int32.toNatClampNeg (184 + (nI p)))), .int (S (tf_rf G o 1) (Int32.toNatClampNeg ((144 + (nI p)) + 1)))] S rfl ⟨by decide, by decide, rfl⟩ ⟨⟨⟨⟨trivial, ⟨by first | assumption | rfl | decide | omega, by first | assumption | rfl | decide | omega⟩⟩, ⟨Or.inl (by first | assumption | rfl | decide | omega), by first | assumption | exact tf_in (n := ((144 + p) + 1)) (tf_add (tf_add (rfl : (144 : Int32) = nI 144) rfl) (rfl : (1 : Int32) = nI 1)) (by first | assumption | rfl) (by omega) (by decide)⟩⟩, ⟨by first | assumption | rfl | decide | omega, by first | assumption | rfl | decide | omega⟩⟩, ⟨Or.inl (by first | assumption | rfl | decide | omega), by first | assumption | exact tf_in (n := (184 + p)) (tf_add (rfl : (184 : Int32) = nI 184) rfl) (by first | assumption | rfl) (by omega) (by decide)⟩⟩ ?_
          rw [show (S (tf_rf G o 1) (Int32.toNatClampNeg (184 + (nI p)))) = nI (f (184 + p)) from (tf_rd hs (tf_add (rfl : (184 : Int32) = nI 184) rfl) (by omega))]
          rw [show (S (tf_rf G o 1) (Int32.toNatClampNeg ((144 + (nI p)) + 1))) = nI (f ((144 + p) + 1)) from (tf_rd hs (tf_add (tf_add (rfl : (144 : Int32) = nI 144) rfl) (rfl : (1 : Int32) = nI 1)) (by omega))]
          by_cases c4 : f (144 + p + 1) = f (184 + p)
          · refine tf_go hx ftX11_swapAt 5 [true] 136 [some (.ref o), some (.int (nI p)), some (.int ((nI p) + 2))] [] S rfl ⟨by decide, by decide, rfl⟩ ⟨trivial, (tf_eqT (a := (f ((144 + p) + 1))) (b := (f (184 + p))) rfl rfl (by have := hb ((144 + p) + 1); have := hb (184 + p); omega))⟩ ?_
            rw [show ((nI p) + 2) = nI (p + 2) from (tf_add rfl (rfl : (2 : Int32) = nI 2))]
            have third : ∀ (m k : Nat), k + m = (f 364) → (tf_fst (tf_df f) m k = tf_fst (tf_df f) (f 364 - (p + 2)) (p + 2)) → tf_K x 0 0 G S 136 [some (.ref o), some (.int (nI p)), some (.int (nI k))] [] := by
              intro m
              induction m with
              | zero =>
                intro k hk he
                rw [tf_fst_0] at he
                refine tf_go hx ftX11_swapAt 5 [] 145 [some (.ref o), some (.int (nI p)), some (.int (nI k))] [.int (S (tf_rf G o 1) (Int32.toNatClampNeg 364)), .int (nI k)] S rfl ⟨by decide, by decide, rfl⟩ ⟨⟨trivial, ⟨by first | assumption | rfl | decide | omega, by first | assumption | rfl | decide | omega⟩⟩, ⟨Or.inl (by first | assumption | rfl | decide | omega), by first | assumption | exact tf_in (n := 364) (rfl : (364 : Int32) = nI 364) (by first | assumption | rfl) (by omega) (by decide)⟩⟩ ?_
                rw [show (S (tf_rf G o 1) (Int32.toNatClampNeg 364)) = nI (f 364) from (tf_rd hs (rfl : (364 : Int32) = nI 364) (by omega))]
                refine tf_go hx ftX11_swapAt 2 [true] 181 [some (.ref o), some (.int (nI p)), some (.int (nI k))] [.int (nI p)] S rfl ⟨by decide, by decide, rfl⟩ ⟨trivial, (tf_leT (a := (f 364)) (b := k) rfl rfl (by have := hb 364; omega) (by have := hb 364; omega) (by have := hb 364; omega))⟩ ?_
                exact tf_ret ftX11_swapAt hR rfl ⟨by decide, by decide⟩ rfl rfl (by unfold tf_sw; rw [hP, if_pos ⟨c1, c2, c3, c4, by omega⟩, tf_on_y (by omega)]; rfl)
              | succ m ih =>
                intro k hk he
                refine tf_go hx ftX11_swapAt 5 [] 145 [some (.ref o), some (.int (nI p)), some (.int (nI k))] [.int (S (tf_rf G o 1) (Int32.toNatClampNeg 364)), .int (nI k)] S rfl ⟨by decide, by decide, rfl⟩ ⟨⟨trivial, ⟨by first | assumption | rfl | decide | omega, by first | assumption | rfl | decide | omega⟩⟩, ⟨Or.inl (by first | assumption | rfl | decide | omega), by first | assumption | exact tf_in (n := 364) (rfl : (364 : Int32) = nI 364) (by first | assumption | rfl) (by omega) (by decide)⟩⟩ ?_
                rw [show (S (tf_rf G o 1) (Int32.toNatClampNeg 364)) = nI (f 364) from (tf_rd hs (rfl : (364 : Int32) = nI 364) (by omega))]
                refine tf_go hx ftX11_swapAt 1 [false] 148 [some (.ref o), some (.int (nI p)), some (.int (nI k))] [] S rfl ⟨by decide, by decide, rfl⟩ ⟨trivial, (tf_leF (a := (f 364)) (b := k) rfl rfl (by have := hb 364; omega) (by have := hb 364; omega) (by have := hb 364; omega))⟩ ?_
                refine tf_go hx ftX11_swapAt 12 [] 168 [some (.ref o), some (.int (nI p)), some (.int (nI k))] [.int (S (tf_rf G o 1) (Int32.toNatClampNeg (184 + (nI k)))), .int (S (tf_rf G o 1) (Int32.toNatClampNeg (144 + (nI k))))] S rfl ⟨by decide, by decide, rfl⟩ ⟨⟨⟨⟨trivial, ⟨by first | assumption | rfl | decide | omega, by first | assumption | rfl | decide | omega⟩⟩, ⟨Or.inl (by first | assumption | rfl | decide | omega), by first | assumption | exact tf_in (n := (144 + k)) (tf_add (rfl : (144 : Int32) = nI 144) rfl) (by first | assumption | rfl) (by omega) (by decide)⟩⟩, ⟨by first | assumption | rfl | decide | omega, by first | assumption | rfl | decide | omega⟩⟩, ⟨Or.inl (by first | assumption | rfl | decide | omega), by first | assumption | exact tf_in (n := (184 + k)) (tf_add (rfl : (184 : Int32) = nI 184) rfl) (by first | assumption | rfl) (by omega) (by decide)⟩⟩ ?_
                rw [show (S (tf_rf G o 1) (Int32.toNatClampNeg (184 + (nI k)))) = nI (f (184 + k)) from (tf_rd hs (tf_add (rfl : (184 : Int32) = nI 184) rfl) (by omega))]
                rw [show (S (tf_rf G o 1) (Int32.toNatClampNeg (144 + (nI k)))) = nI (f (144 + k)) from (tf_rd hs (tf_add (rfl : (144 : Int32) = nI 144) rfl) (by omega))]
                by_cases c5 : f (144 + k) = f (184 + k)
                · refine tf_go hx ftX11_swapAt 3 [true] 136 [some (.ref o), some (.int (nI p)), some (.int ((nI k) + 1))] [] S rfl ⟨by decide, by decide, rfl⟩ ⟨trivial, (tf_eqT (a := (f (144 + k))) (b := (f (184 + k))) rfl rfl (by have := hb (144 + k); have := hb (184 + k); omega))⟩ ?_
                  rw [show ((nI k) + 1) = nI (k + 1) from (tf_add rfl (rfl : (1 : Int32) = nI 1))]
                  exact ih (k + 1) (by omega) (by rw [← he, tf_fst_n (by unfold tf_df; simpa using c5)])
                · refine tf_go hx ftX11_swapAt 2 [false] 173 [some (.ref o), some (.int (nI p)), some (.int (nI k))] [.int (-9)] S rfl ⟨by decide, by decide, rfl⟩ ⟨trivial, (tf_eqF (a := (f (144 + k))) (b := (f (184 + k))) rfl rfl (by have := hb (144 + k); have := hb (184 + k); omega) (by have := hb (144 + k); have := hb (184 + k); omega) (by have := hb (144 + k); have := hb (184 + k); omega))⟩ ?_
                  exact tf_ret ftX11_swapAt hR rfl ⟨by decide, by decide⟩ rfl rfl (by rw [tf_fst_y (by unfold tf_df; simpa using c5)] at he; unfold tf_sw; rw [hP, if_neg (by rintro ⟨-, -, -, -, h⟩; omega)]; rfl)
            exact third (f 364 - (p + 2)) (p + 2) (by omega) rfl
          · refine tf_go hx ftX11_swapAt 2 [false] 131 [some (.ref o), some (.int (nI p)), none] [.int (-9)] S rfl ⟨by decide, by decide, rfl⟩ ⟨trivial, (tf_eqF (a := (f ((144 + p) + 1))) (b := (f (184 + p))) rfl rfl (by have := hb ((144 + p) + 1); have := hb (184 + p); omega) (by have := hb ((144 + p) + 1); have := hb (184 + p); omega) (by have := hb ((144 + p) + 1); have := hb (184 + p); omega))⟩ ?_
            exact tf_ret ftX11_swapAt hR rfl ⟨by decide, by decide⟩ rfl rfl (by unfold tf_sw; rw [hP, if_neg (by rintro ⟨-, -, -, h, -⟩; exact c4 h)]; rfl)
        · refine tf_go hx ftX11_swapAt 2 [true] 131 [some (.ref o), some (.int (nI p)), none] [.int (-9)] S rfl ⟨by decide, by decide, rfl⟩ ⟨trivial, (tf_eqF (a := (f (144 + p))) (b := (f ((184 + p) + 1))) rfl rfl (by have := hb (144 + p); have := hb ((184 + p) + 1); omega) (by have := hb (144 + p); have := hb ((184 + p) + 1); omega) (by have := hb (144 + p); have := hb ((184 + p) + 1); omega))⟩ ?_
          exact tf_ret ftX11_swapAt hR rfl ⟨by decide, by decide⟩ rfl rfl (by unfold tf_sw; rw [hP, if_neg (by rintro ⟨-, -, h, -⟩; exact c3 h)]; rfl)
      · refine tf_go hx ftX11_swapAt 2 [true] 131 [some (.ref o), some (.int (nI p)), none] [.int (-9)] S rfl ⟨by decide, by decide, rfl⟩ ⟨trivial, (tf_leT (a := (f 364)) (b := (p + 1)) rfl rfl (by have := hb 364; omega) (by have := hb 364; omega) (by have := hb 364; omega))⟩ ?_
        exact tf_ret ftX11_swapAt hR rfl ⟨by decide, by decide⟩ rfl rfl (by unfold tf_sw; rw [hP, if_neg (by rintro ⟨-, h, -⟩; exact c2 h)]; rfl)
    have loop : ∀ (m k : Nat), k + m = (f 364) → (tf_fst (tf_df f) m k = p) → tf_K x 0 0 G S 24 [some (.ref o), some (.int (nI k)), none] [] := by
      intro m
      induction m with
      | zero =>
        intro k hk he
        rw [tf_fst_0] at he
        refine tf_go hx ftX11_swapAt 5 [] 33 [some (.ref o), some (.int (nI k)), none] [.int (S (tf_rf G o 1) (Int32.toNatClampNeg 364)), .int (nI k)] S rfl ⟨by decide, by decide, rfl⟩ ⟨⟨trivial, ⟨by first | assumption | rfl | decide | omega, by first | assumption | rfl | decide | omega⟩⟩, ⟨Or.inl (by first | assumption | rfl | decide | omega), by first | assumption | exact tf_in (n := 364) (rfl : (364 : Int32) = nI 364) (by first | assumption | rfl) (by omega) (by decide)⟩⟩ ?_
        rw [show (S (tf_rf G o 1) (Int32.toNatClampNeg 364)) = nI (f 364) from (tf_rd hs (rfl : (364 : Int32) = nI 364) (by omega))]
        refine tf_go hx ftX11_swapAt 1 [true] 65 [some (.ref o), some (.int (nI k)), none] [] S rfl ⟨by decide, by decide, rfl⟩ ⟨trivial, (tf_leT (a := (f 364)) (b := k) rfl rfl (by have := hb 364; omega) (by have := hb 364; omega) (by have := hb 364; omega))⟩ ?_
        rw [show k = p by omega]
        exact tail
      | succ m ih =>
        intro k hk he
        refine tf_go hx ftX11_swapAt 5 [] 33 [some (.ref o), some (.int (nI k)), none] [.int (S (tf_rf G o 1) (Int32.toNatClampNeg 364)), .int (nI k)] S rfl ⟨by decide, by decide, rfl⟩ ⟨⟨trivial, ⟨by first | assumption | rfl | decide | omega, by first | assumption | rfl | decide | omega⟩⟩, ⟨Or.inl (by first | assumption | rfl | decide | omega), by first | assumption | exact tf_in (n := 364) (rfl : (364 : Int32) = nI 364) (by first | assumption | rfl) (by omega) (by decide)⟩⟩ ?_
        rw [show (S (tf_rf G o 1) (Int32.toNatClampNeg 364)) = nI (f 364) from (tf_rd hs (rfl : (364 : Int32) = nI 364) (by omega))]
        refine tf_go hx ftX11_swapAt 1 [false] 36 [some (.ref o), some (.int (nI k)), none] [] S rfl ⟨by decide, by decide, rfl⟩ ⟨trivial, (tf_leF (a := (f 364)) (b := k) rfl rfl (by have := hb 364; omega) (by have := hb 364; omega) (by have := hb 364; omega))⟩ ?_
        refine tf_go hx ftX11_swapAt 12 [] 56 [some (.ref o), some (.int (nI k)), none] [.int (S (tf_rf G o 1) (Int32.toNatClampNeg (184 + (nI k)))), .int (S (tf_rf G o 1) (Int32.toNatClampNeg (144 + (nI k))))] S rfl ⟨by decide, by decide, rfl⟩ ⟨⟨⟨⟨trivial, ⟨by first | assumption | rfl | decide | omega, by first | assumption | rfl | decide | omega⟩⟩, ⟨Or.inl (by first | assumption | rfl | decide | omega), by first | assumption | exact tf_in (n := (144 + k)) (tf_add (rfl : (144 : Int32) = nI 144) rfl) (by first | assumption | rfl) (by omega) (by decide)⟩⟩, ⟨by first | assumption | rfl | decide | omega, by first | assumption | rfl | decide | omega⟩⟩, ⟨Or.inl (by first | assumption | rfl | decide | omega), by first | assumption | exact tf_in (n := (184 + k)) (tf_add (rfl : (184 : Int32) = nI 184) rfl) (by first | assumption | rfl) (by omega) (by decide)⟩⟩ ?_
        rw [show (S (tf_rf G o 1) (Int32.toNatClampNeg (184 + (nI k)))) = nI (f (184 + k)) from (tf_rd hs (tf_add (rfl : (184 : Int32) = nI 184) rfl) (by omega))]
        rw [show (S (tf_rf G o 1) (Int32.toNatClampNeg (144 + (nI k)))) = nI (f (144 + k)) from (tf_rd hs (tf_add (rfl : (144 : Int32) = nI 144) rfl) (by omega))]
        by_cases c5 : f (144 + k) = f (184 + k)
        · refine tf_go hx ftX11_swapAt 3 [false] 24 [some (.ref o), some (.int ((nI k) + 1)), none] [] S rfl ⟨by decide, by decide, rfl⟩ ⟨trivial, (tf_neF (a := (f (144 + k))) (b := (f (184 + k))) rfl rfl (by have := hb (144 + k); have := hb (184 + k); omega))⟩ ?_
          rw [show ((nI k) + 1) = nI (k + 1) from (tf_add rfl (rfl : (1 : Int32) = nI 1))]
          exact ih (k + 1) (by omega) (by rw [← he, tf_fst_n (by unfold tf_df; simpa using c5)])
        · rw [tf_fst_y (by unfold tf_df; simpa using c5)] at he
          refine tf_go hx ftX11_swapAt 1 [true] 65 [some (.ref o), some (.int (nI k)), none] [] S rfl ⟨by decide, by decide, rfl⟩ ⟨trivial, (tf_eqF (a := (f (144 + k))) (b := (f (184 + k))) rfl rfl (by have := hb (144 + k); have := hb (184 + k); omega) (by have := hb (144 + k); have := hb (184 + k); omega) (by have := hb (144 + k); have := hb (184 + k); omega))⟩ ?_
          rw [show k = p by omega]
          exact tail
    exact loop (f 364) 0 (by omega) hp
  · refine tf_go hx ftX11_swapAt 2 [false] 21 [some (.ref o), none, none] [.int (-9)] S rfl ⟨by decide, by decide, rfl⟩ ⟨trivial, (tf_eqF (a := (f 365)) (b := (f 364)) rfl rfl (by have := hb 365; have := hb 364; omega) (by have := hb 365; have := hb 364; omega) (by have := hb 365; have := hb 364; omega))⟩ ?_
    exact tf_ret ftX11_swapAt hR rfl ⟨by decide, by decide⟩ rfl rfl (by unfold tf_sw; rw [if_neg (by rintro ⟨h, -⟩; exact c1 h)]; rfl)

set_option maxHeartbeats 1000000 in
theorem m_doubleAt {G : tf_G} {S : tf_Sg} {o : Nat} {f : Nat → Nat} (ho : tf_mo G o) (hf : tf_sf G S o f) (hg : tf_gd f) : tf_Fn mX11_doubleAt 2 0 0 G S [.ref o] G S (some (.int (tf_on 41 (tf_do f)))) := by
  obtain ⟨h1, ⟨r0, t0, n0⟩, ⟨r1, t1, n1⟩, ⟨r2, t2, n2⟩, ⟨r4, t4, n4⟩⟩ := id ho
  obtain ⟨hs, hb⟩ := id hf
  obtain ⟨⟨g1, g2, g3, g4⟩, g5, g6, g7, g8, g9, g10, g11⟩ := id hg
  refine tf_Fn_of (own := RX11) false ⟨by decide, rfl, by decide⟩ (Nat.le_of_ble_eq_true rfl) trivial (fun x hx hR => ?_)
  show tf_K x 0 0 G S 0 [some (.ref o), none, none, none, none, none] []
  refine tf_go hx ftX11_doubleAt 1 [] 1 [some (.ref o), none, none, none, none, none] [.ref o] S rfl ⟨by decide, by decide, rfl⟩ trivial ?_
  refine tf_cV hx ftX11_doubleAt (nx := 4) (As := []) (rest := []) (st2 := [.int (tf_on 41 (tf_sl f))]) (m_slipAt ho hf hg) rfl lX11_95 (by first | assumption | rfl | decide) rfl ⟨rfl, by decide, by decide, by decide, rfl, rfl⟩ ?_
  by_cases c1 : tf_sl f < 41
  · rw [tf_on_y c1]
    obtain ⟨l1, l2, l3, l4⟩ := tf_sl_le c1
    clear l3
    have un : ∀ (q : Nat), tf_do f = q ↔ tf_do f = q := fun _ => Iff.rfl
    unfold tf_do at hR
    generalize hq : tf_sl f = p at *
    refine tf_go hx ftX11_doubleAt 3 [] 7 [some (.ref o), some (.int (nI p)), none, none, none, none] [.int 1, .int (nI p)] S rfl ⟨by decide, by decide, rfl⟩ trivial ?_
    by_cases c2 : p < 1
    · refine tf_go hx ftX11_doubleAt 2 [true] 26 [some (.ref o), some (.int (nI p)), none, none, none, none] [.int (-9)] S rfl ⟨by decide, by decide, rfl⟩ ⟨trivial, (tf_ltT (a := p) (b := 1) rfl (rfl : (1 : Int32) = nI 1) (by omega) (by omega) (by omega))⟩ ?_
      exact tf_ret ftX11_doubleAt hR rfl ⟨by decide, by decide⟩ rfl rfl (by rw [if_neg (by rintro ⟨-, h, -⟩; omega)]; rfl)
    · refine tf_go hx ftX11_doubleAt 1 [false] 10 [some (.ref o), some (.int (nI p)), none, none, none, none] [] S rfl ⟨by decide, by decide, rfl⟩ ⟨trivial, (tf_ltF (a := p) (b := 1) rfl (rfl : (1 : Int32) = nI 1) (by omega) (by omega) (by omega))⟩ ?_
      refine tf_go hx ftX11_doubleAt 7 [] 21 [some (.ref o), some (.int (nI p)), none, none, none, none] [.int (S (tf_rf G o 1) (Int32.toNatClampNeg 364)), .int ((nI p) + 1)] S rfl ⟨by decide, by decide, rfl⟩ ⟨⟨trivial, ⟨by first | assumption | rfl | decide | omega, by first | assumption | rfl | decide | omega⟩⟩, ⟨Or.inl (by first | assumption | rfl | decide | omega), by first | assumption | exact tf_in (n := 364) (rfl : (364 : Int32) = nI 364) (by first | assumption | rfl) (by omega) (by decide)⟩⟩ ?_
      rw [show (S (tf_rf G o 1) (Int32.toNatClampNeg 364)) = nI (f 364) from (tf_rd hs (rfl : (364 : Int32) = nI 364) (by omega))]
      rw [show ((nI p) + 1) = nI (p + 1) from (tf_add rfl (rfl : (1 : Int32) = nI 1))]
      by_cases c3 : p + 1 < f 364
      · refine tf_go hx ftX11_doubleAt 1 [true] 27 [some (.ref o), some (.int (nI p)), none, none, none, none] [] S rfl ⟨by decide, by decide, rfl⟩ ⟨trivial, (tf_ltT (a := (p + 1)) (b := (f 364)) rfl rfl (by have := hb 364; omega) (by have := hb 364; omega) (by have := hb 364; omega))⟩ ?_
        refine tf_go hx ftX11_doubleAt 34 [] 79 [some (.ref o), some (.int (nI p)), some (.int (S (tf_rf G o 1) (Int32.toNatClampNeg ((144 + (nI p)) - 1)))), some (.int (S (tf_rf G o 1) (Int32.toNatClampNeg (144 + (nI p))))), some (.int (S (tf_rf G o 1) (Int32.toNatClampNeg ((144 + (nI p)) + 1)))), some (.int (S (tf_rf G o 1) (Int32.toNatClampNeg (184 + (nI p)))))] [.int (S (tf_rf G o 1) (Int32.toNatClampNeg ((144 + (nI p)) - 1))), .int (S (tf_rf G o 1) (Int32.toNatClampNeg (144 + (nI p))))] S rfl ⟨by decide, by decide, rfl⟩ ⟨⟨⟨⟨⟨⟨⟨⟨trivial, ⟨by first | assumption | rfl | decide | omega, by first | assumption | rfl | decide | omega⟩⟩, ⟨Or.inl (by first | assumption | rfl | decide | omega), by first | assumption | exact tf_in (n := ((144 + p) - 1)) (tf_sub (tf_add (rfl : (144 : Int32) = nI 144) rfl) (rfl : (1 : Int32) = nI 1) (by omega)) (by first | assumption | rfl) (by omega) (by decide)⟩⟩, ⟨by first | assumption | rfl | decide | omega, by first | assumption | rfl | decide | omega⟩⟩, ⟨Or.inl (by first | assumption | rfl | decide | omega), by first | assumption | exact tf_in (n := (144 + p)) (tf_add (rfl : (144 : Int32) = nI 144) rfl) (by first | assumption | rfl) (by omega) (by decide)⟩⟩, ⟨by first | assumption | rfl | decide | omega, by first | assumption | rfl | decide | omega⟩⟩, ⟨Or.inl (by first | assumption | rfl | decide | omega), by first | assumption | exact tf_in (n := ((144 + p) + 1)) (tf_add (tf_add (rfl : (144 : Int32) = nI 144) rfl) (rfl : (1 : Int32) = nI 1)) (by first | assumption | rfl) (by omega) (by decide)⟩⟩, ⟨by first | assumption | rfl | decide | omega, by first | assumption | rfl | decide | omega⟩⟩, ⟨Or.inl (by first | assumption | rfl | decide | omega), by first | assumption | exact tf_in (n := (184 + p)) (tf_add (rfl : (184 : Int32) = nI 184) rfl) (by first | assumption | rfl) (by omega) (by decide)⟩⟩ ?_
        rw [show (S (tf_rf G o 1) (Int32.toNatClampNeg ((144 + (nI p)) - 1))) = nI (f ((144 + p) - 1)) from (tf_rd hs (tf_sub (tf_add (rfl : (144 : Int32) = nI 144) rfl) (rfl : (1 : Int32) = nI 1) (by omega)) (by omega))]
        rw [show (S (tf_rf G o 1) (Int32.toNatClampNeg (144 + (nI p)))) = nI (f (144 + p)) from (tf_rd hs (tf_add (rfl : (144 : Int32) = nI 144) rfl) (by omega))]
        rw [show (S (tf_rf G o 1) (Int32.toNatClampNeg ((144 + (nI p)) + 1))) = nI (f ((144 + p) + 1)) from (tf_rd hs (tf_add (tf_add (rfl : (144 : Int32) = nI 144) rfl) (rfl : (1 : Int32) = nI 1)) (by omega))]
        rw [show (S (tf_rf G o 1) (Int32.toNatClampNeg (184 + (nI p)))) = nI (f (184 + p)) from (tf_rd hs (tf_add (rfl : (184 : Int32) = nI 184) rfl) (by omega))]
        by_cases e1 : f (144 + p) = f (144 + p - 1)
        · refine tf_go hx ftX11_doubleAt 1 [false] 82 [some (.ref o), some (.int (nI p)), some (.int (nI (f ((144 + p) - 1)))), some (.int (nI (f (144 + p)))), some (.int (nI (f ((144 + p) + 1)))), some (.int (nI (f (184 + p))))] [] S rfl ⟨by decide, by decide, rfl⟩ ⟨trivial, (tf_neF (a := (f (144 + p))) (b := (f ((144 + p) - 1))) rfl rfl (by have := hb (144 + p); have := hb ((144 + p) - 1); omega))⟩ ?_
          refine tf_go hx ftX11_doubleAt 2 [] 86 [some (.ref o), some (.int (nI p)), some (.int (nI (f ((144 + p) - 1)))), some (.int (nI (f (144 + p)))), some (.int (nI (f ((144 + p) + 1)))), some (.int (nI (f (184 + p))))] [.int (nI (f ((144 + p) + 1))), .int (nI (f (184 + p)))] S rfl ⟨by decide, by decide, rfl⟩ trivial ?_
          by_cases e2 : f (184 + p) = f (144 + p + 1)
          · refine tf_go hx ftX11_doubleAt 1 [false] 89 [some (.ref o), some (.int (nI p)), some (.int (nI (f ((144 + p) - 1)))), some (.int (nI (f (144 + p)))), some (.int (nI (f ((144 + p) + 1)))), some (.int (nI (f (184 + p))))] [] S rfl ⟨by decide, by decide, rfl⟩ ⟨trivial, (tf_neF (a := (f (184 + p))) (b := (f ((144 + p) + 1))) rfl rfl (by have := hb (184 + p); have := hb ((144 + p) + 1); omega))⟩ ?_
            refine tf_go hx ftX11_doubleAt 2 [] 92 [some (.ref o), some (.int (nI p)), some (.int (nI (f ((144 + p) - 1)))), some (.int (nI (f (144 + p)))), some (.int (nI (f ((144 + p) + 1)))), some (.int (nI (f (184 + p))))] [.int (nI (f ((144 + p) + 1))), .int (nI (f ((144 + p) - 1)))] S rfl ⟨by decide, by decide, rfl⟩ trivial ?_
            by_cases e3 : f (144 + p - 1) = f (144 + p + 1)
            · refine tf_go hx ftX11_doubleAt 1 [false] 95 [some (.ref o), some (.int (nI p)), some (.int (nI (f ((144 + p) - 1)))), some (.int (nI (f (144 + p)))), some (.int (nI (f ((144 + p) + 1)))), some (.int (nI (f (184 + p))))] [] S rfl ⟨by decide, by decide, rfl⟩ ⟨trivial, (tf_neF (a := (f ((144 + p) - 1))) (b := (f ((144 + p) + 1))) rfl rfl (by have := hb ((144 + p) - 1); have := hb ((144 + p) + 1); omega))⟩ ?_
              refine tf_go hx ftX11_doubleAt 2 [] 98 [some (.ref o), some (.int (nI p)), some (.int (nI (f ((144 + p) - 1)))), some (.int (nI (f (144 + p)))), some (.int (nI (f ((144 + p) + 1)))), some (.int (nI (f (184 + p))))] [.int (nI (f ((144 + p) + 1))), .int (nI (f (144 + p)))] S rfl ⟨by decide, by decide, rfl⟩ trivial ?_
              by_cases d1 : f (144 + p) = f (144 + p + 1)
              · refine tf_go hx ftX11_doubleAt 1 [false] 101 [some (.ref o), some (.int (nI p)), some (.int (nI (f ((144 + p) - 1)))), some (.int (nI (f (144 + p)))), some (.int (nI (f ((144 + p) + 1)))), some (.int (nI (f (184 + p))))] [] S rfl ⟨by decide, by decide, rfl⟩ ⟨trivial, (tf_neF (a := (f (144 + p))) (b := (f ((144 + p) + 1))) rfl rfl (by have := hb (144 + p); have := hb ((144 + p) + 1); omega))⟩ ?_
                refine tf_go hx ftX11_doubleAt 2 [] 104 [some (.ref o), some (.int (nI p)), some (.int (nI (f ((144 + p) - 1)))), some (.int (nI (f (144 + p)))), some (.int (nI (f ((144 + p) + 1)))), some (.int (nI (f (184 + p))))] [.int (nI (f ((144 + p) - 1))), .int (nI (f (184 + p)))] S rfl ⟨by decide, by decide, rfl⟩ trivial ?_
                by_cases d2 : f (184 + p) = f (144 + p - 1)
                · refine tf_go hx ftX11_doubleAt 1 [false] 107 [some (.ref o), some (.int (nI p)), some (.int (nI (f ((144 + p) - 1)))), some (.int (nI (f (144 + p)))), some (.int (nI (f ((144 + p) + 1)))), some (.int (nI (f (184 + p))))] [] S rfl ⟨by decide, by decide, rfl⟩ ⟨trivial, (tf_neF (a := (f (184 + p))) (b := (f ((144 + p) - 1))) rfl rfl (by have := hb (184 + p); have := hb ((144 + p) - 1); omega))⟩ ?_
                  refine tf_go hx ftX11_doubleAt 2 [] 110 [some (.ref o), some (.int (nI p)), some (.int (nI (f ((144 + p) - 1)))), some (.int (nI (f (144 + p)))), some (.int (nI (f ((144 + p) + 1)))), some (.int (nI (f (184 + p))))] [.int (nI (f ((144 + p) + 1))), .int (nI (f ((144 + p) - 1)))] S rfl ⟨by decide, by decide, rfl⟩ trivial ?_
                  by_cases d3 : f (144 + p - 1) = f (144 + p + 1)
                  · refine tf_go hx ftX11_doubleAt 2 [true] 121 [some (.ref o), some (.int (nI p)), some (.int (nI (f ((144 + p) - 1)))), some (.int (nI (f (144 + p)))), some (.int (nI (f ((144 + p) + 1)))), some (.int (nI (f (184 + p))))] [.int (-9)] S rfl ⟨by decide, by decide, rfl⟩ ⟨trivial, (tf_eqT (a := (f ((144 + p) - 1))) (b := (f ((144 + p) + 1))) rfl rfl (by have := hb ((144 + p) - 1); have := hb ((144 + p) + 1); omega))⟩ ?_
                    exact tf_ret ftX11_doubleAt hR rfl ⟨by decide, by decide⟩ rfl rfl (by rw [if_neg (by rintro ⟨-, -, -, h | h⟩; exact h.2.2 d3; exact h.2.2 d3)]; rfl)
                  · refine tf_go hx ftX11_doubleAt 5 [false] 121 [some (.ref o), some (.int (nI p)), some (.int (nI (f ((144 + p) - 1)))), some (.int (nI (f (144 + p)))), some (.int (nI (f ((144 + p) + 1)))), some (.int (nI (f (184 + p))))] [.int ((nI p) - 1)] S rfl ⟨by decide, by decide, rfl⟩ ⟨trivial, (tf_eqF (a := (f ((144 + p) - 1))) (b := (f ((144 + p) + 1))) rfl rfl (by have := hb ((144 + p) - 1); have := hb ((144 + p) + 1); omega) (by have := hb ((144 + p) - 1); have := hb ((144 + p) + 1); omega) (by have := hb ((144 + p) - 1); have := hb ((144 + p) + 1); omega))⟩ ?_
                    rw [show ((nI p) - 1) = nI (p - 1) from (tf_sub rfl (rfl : (1 : Int32) = nI 1) (by omega))]
                    exact tf_ret ftX11_doubleAt hR rfl ⟨by decide, by decide⟩ rfl rfl (by rw [if_pos ⟨c1, by omega, c3, Or.inr ⟨d1, d2, d3⟩⟩, tf_on_y (by omega)]; rfl)
                · refine tf_go hx ftX11_doubleAt 2 [true] 121 [some (.ref o), some (.int (nI p)), some (.int (nI (f ((144 + p) - 1)))), some (.int (nI (f (144 + p)))), some (.int (nI (f ((144 + p) + 1)))), some (.int (nI (f (184 + p))))] [.int (-9)] S rfl ⟨by decide, by decide, rfl⟩ ⟨trivial, (tf_eqF (a := (f (184 + p))) (b := (f ((144 + p) - 1))) rfl rfl (by have := hb (184 + p); have := hb ((144 + p) - 1); omega) (by have := hb (184 + p); have := hb ((144 + p) - 1); omega) (by have := hb (184 + p); have := hb ((144 + p) - 1); omega))⟩ ?_
                  exact tf_ret ftX11_doubleAt hR rfl ⟨by decide, by decide⟩ rfl rfl (by rw [if_neg (by rintro ⟨-, -, -, h | h⟩; exact h.2.2 e3; exact d2 h.2.1)]; rfl)
              · refine tf_go hx ftX11_doubleAt 2 [true] 121 [some (.ref o), some (.int (nI p)), some (.int (nI (f ((144 + p) - 1)))), some (.int (nI (f (144 + p)))), some (.int (nI (f ((144 + p) + 1)))), some (.int (nI (f (184 + p))))] [.int (-9)] S rfl ⟨by decide, by decide, rfl⟩ ⟨trivial, (tf_eqF (a := (f (144 + p))) (b := (f ((144 + p) + 1))) rfl rfl (by have := hb (144 + p); have := hb ((144 + p) + 1); omega) (by have := hb (144 + p); have := hb ((144 + p) + 1); omega) (by have := hb (144 + p); have := hb ((144 + p) + 1); omega))⟩ ?_
                exact tf_ret ftX11_doubleAt hR rfl ⟨by decide, by decide⟩ rfl rfl (by rw [if_neg (by rintro ⟨-, -, -, h | h⟩; exact h.2.2 e3; exact d1 h.1)]; rfl)
            · refine tf_go hx ftX11_doubleAt 5 [true] 121 [some (.ref o), some (.int (nI p)), some (.int (nI (f ((144 + p) - 1)))), some (.int (nI (f (144 + p)))), some (.int (nI (f ((144 + p) + 1)))), some (.int (nI (f (184 + p))))] [.int ((nI p) - 1)] S rfl ⟨by decide, by decide, rfl⟩ ⟨trivial, (tf_eqF (a := (f ((144 + p) - 1))) (b := (f ((144 + p) + 1))) rfl rfl (by have := hb ((144 + p) - 1); have := hb ((144 + p) + 1); omega) (by have := hb ((144 + p) - 1); have := hb ((144 + p) + 1); omega) (by have := hb ((144 + p) - 1); have := hb ((144 + p) + 1); omega))⟩ ?_
              rw [show ((nI p) - 1) = nI (p - 1) from (tf_sub rfl (rfl : (1 : Int32) = nI 1) (by omega))]
              exact tf_ret ftX11_doubleAt hR rfl ⟨by decide, by decide⟩ rfl rfl (by rw [if_pos ⟨c1, by omega, c3, Or.inl ⟨e1, e2, e3⟩⟩, tf_on_y (by omega)]; rfl)
          · refine tf_go hx ftX11_doubleAt 1 [true] 95 [some (.ref o), some (.int (nI p)), some (.int (nI (f ((144 + p) - 1)))), some (.int (nI (f (144 + p)))), some (.int (nI (f ((144 + p) + 1)))), some (.int (nI (f (184 + p))))] [] S rfl ⟨by decide, by decide, rfl⟩ ⟨trivial, (tf_eqF (a := (f (184 + p))) (b := (f ((144 + p) + 1))) rfl rfl (by have := hb (184 + p); have := hb ((144 + p) + 1); omega) (by have := hb (184 + p); have := hb ((144 + p) + 1); omega) (by have := hb (184 + p); have := hb ((144 + p) + 1); omega))⟩ ?_
            refine tf_go hx ftX11_doubleAt 2 [] 98 [some (.ref o), some (.int (nI p)), some (.int (nI (f ((144 + p) - 1)))), some (.int (nI (f (144 + p)))), some (.int (nI (f ((144 + p) + 1)))), some (.int (nI (f (184 + p))))] [.int (nI (f ((144 + p) + 1))), .int (nI (f (144 + p)))] S rfl ⟨by decide, by decide, rfl⟩ trivial ?_
            by_cases d1 : f (144 + p) = f (144 + p + 1)
            · refine tf_go hx ftX11_doubleAt 1 [false] 101 [some (.ref o), some (.int (nI p)), some (.int (nI (f ((144 + p) - 1)))), some (.int (nI (f (144 + p)))), some (.int (nI (f ((144 + p) + 1)))), some (.int (nI (f (184 + p))))] [] S rfl ⟨by decide, by decide, rfl⟩ ⟨trivial, (tf_neF (a := (f (144 + p))) (b := (f ((144 + p) + 1))) rfl rfl (by have := hb (144 + p); have := hb ((144 + p) + 1); omega))⟩ ?_
              refine tf_go hx ftX11_doubleAt 2 [] 104 [some (.ref o), some (.int (nI p)), some (.int (nI (f ((144 + p) - 1)))), some (.int (nI (f (144 + p)))), some (.int (nI (f ((144 + p) + 1)))), some (.int (nI (f (184 + p))))] [.int (nI (f ((144 + p) - 1))), .int (nI (f (184 + p)))] S rfl ⟨by decide, by decide, rfl⟩ trivial ?_
              by_cases d2 : f (184 + p) = f (144 + p - 1)
              · refine tf_go hx ftX11_doubleAt 1 [false] 107 [some (.ref o), some (.int (nI p)), some (.int (nI (f ((144 + p) - 1)))), some (.int (nI (f (144 + p)))), some (.int (nI (f ((144 + p) + 1)))), some (.int (nI (f (184 + p))))] [] S rfl ⟨by decide, by decide, rfl⟩ ⟨trivial, (tf_neF (a := (f (184 + p))) (b := (f ((144 + p) - 1))) rfl rfl (by have := hb (184 + p); have := hb ((144 + p) - 1); omega))⟩ ?_
                refine tf_go hx ftX11_doubleAt 2 [] 110 [some (.ref o), some (.int (nI p)), some (.int (nI (f ((144 + p) - 1)))), some (.int (nI (f (144 + p)))), some (.int (nI (f ((144 + p) + 1)))), some (.int (nI (f (184 + p))))] [.int (nI (f ((144 + p) + 1))), .int (nI (f ((144 + p) - 1)))] S rfl ⟨by decide, by decide, rfl⟩ trivial ?_
                by_cases d3 : f (144 + p - 1) = f (144 + p + 1)
                · refine tf_go hx ftX11_doubleAt 2 [true] 121 [some (.ref o), some (.int (nI p)), some (.int (nI (f ((144 + p) - 1)))), some (.int (nI (f (144 + p)))), some (.int (nI (f ((144 + p) + 1)))), some (.int (nI (f (184 + p))))] [.int (-9)] S rfl ⟨by decide, by decide, rfl⟩ ⟨trivial, (tf_eqT (a := (f ((144 + p) - 1))) (b := (f ((144 + p) + 1))) rfl rfl (by have := hb ((144 + p) - 1); have := hb ((144 + p) + 1); omega))⟩ ?_
                  exact tf_ret ftX11_doubleAt hR rfl ⟨by decide, by decide⟩ rfl rfl (by rw [if_neg (by rintro ⟨-, -, -, h | h⟩; exact h.2.2 d3; exact h.2.2 d3)]; rfl)
                · refine tf_go hx ftX11_doubleAt 5 [false] 121 [some (.ref o), some (.int (nI p)), some (.int (nI (f ((144 + p) - 1)))), some (.int (nI (f (144 + p)))), some (.int (nI (f ((144 + p) + 1)))), some (.int (nI (f (184 + p))))] [.int ((nI p) - 1)] S rfl ⟨by decide, by decide, rfl⟩ ⟨trivial, (tf_eqF (a := (f ((144 + p) - 1))) (b := (f ((144 + p) + 1))) rfl rfl (by have := hb ((144 + p) - 1); have := hb ((144 + p) + 1); omega) (by have := hb ((144 + p) - 1); have := hb ((144 + p) + 1); omega) (by have := hb ((144 + p) - 1); have := hb ((144 + p) + 1); omega))⟩ ?_
                  rw [show ((nI p) - 1) = nI (p - 1) from (tf_sub rfl (rfl : (1 : Int32) = nI 1) (by omega))]
                  exact tf_ret ftX11_doubleAt hR rfl ⟨by decide, by decide⟩ rfl rfl (by rw [if_pos ⟨c1, by omega, c3, Or.inr ⟨d1, d2, d3⟩⟩, tf_on_y (by omega)]; rfl)
              · refine tf_go hx ftX11_doubleAt 2 [true] 121 [some (.ref o), some (.int (nI p)), some (.int (nI (f ((144 + p) - 1)))), some (.int (nI (f (144 + p)))), some (.int (nI (f ((144 + p) + 1)))), some (.int (nI (f (184 + p))))] [.int (-9)] S rfl ⟨by decide, by decide, rfl⟩ ⟨trivial, (tf_eqF (a := (f (184 + p))) (b := (f ((144 + p) - 1))) rfl rfl (by have := hb (184 + p); have := hb ((144 + p) - 1); omega) (by have := hb (184 + p); have := hb ((144 + p) - 1); omega) (by have := hb (184 + p); have := hb ((144 + p) - 1); omega))⟩ ?_
                exact tf_ret ftX11_doubleAt hR rfl ⟨by decide, by decide⟩ rfl rfl (by rw [if_neg (by rintro ⟨-, -, -, h | h⟩; exact e2 h.2.1; exact d2 h.2.1)]; rfl)
            · refine tf_go hx ftX11_doubleAt 2 [true] 121 [some (.ref o), some (.int (nI p)), some (.int (nI (f ((144 + p) - 1)))), some (.int (nI (f (144 + p)))), some (.int (nI (f ((144 + p) + 1)))), some (.int (nI (f (184 + p))))] [.int (-9)] S rfl ⟨by decide, by decide, rfl⟩ ⟨trivial, (tf_eqF (a := (f (144 + p))) (b := (f ((144 + p) + 1))) rfl rfl (by have := hb (144 + p); have := hb ((144 + p) + 1); omega) (by have := hb (144 + p); have := hb ((144 + p) + 1); omega) (by have := hb (144 + p); have := hb ((144 + p) + 1); omega))⟩ ?_
              exact tf_ret ftX11_doubleAt hR rfl ⟨by decide, by decide⟩ rfl rfl (by rw [if_neg (by rintro ⟨-, -, -, h | h⟩; exact e2 h.2.1; exact d1 h.1)]; rfl)
        · refine tf_go hx ftX11_doubleAt 1 [true] 95 [some (.ref o), some (.int (nI p)), some (.int (nI (f ((144 + p) - 1)))), some (.int (nI (f (144 + p)))), some (.int (nI (f ((144 + p) + 1)))), some (.int (nI (f (184 + p))))] [] S rfl ⟨by decide, by decide, rfl⟩ ⟨trivial, (tf_eqF (a := (f (144 + p))) (b := (f ((144 + p) - 1))) rfl rfl (by have := hb (144 + p); have := hb ((144 + p) - 1); omega) (by have := hb (144 + p); have := hb ((144 + p) - 1); omega) (by have := hb (144 + p); have := hb ((144 + p) - 1); omega))⟩ ?_
          refine tf_go hx ftX11_doubleAt 2 [] 98 [some (.ref o), some (.int (nI p)), some (.int (nI (f ((144 + p) - 1)))), some (.int (nI (f (144 + p)))), some (.int (nI (f ((144 + p) + 1)))), some (.int (nI (f (184 + p))))] [.int (nI (f ((144 + p) + 1))), .int (nI (f (144 + p)))] S rfl ⟨by decide, by decide, rfl⟩ trivial ?_
          by_cases d1 : f (144 + p) = f (144 + p + 1)
          · refine tf_go hx ftX11_doubleAt 1 [false] 101 [some (.ref o), some (.int (nI p)), some (.int (nI (f ((144 + p) - 1)))), some (.int (nI (f (144 + p)))), some (.int (nI (f ((144 + p) + 1)))), some (.int (nI (f (184 + p))))] [] S rfl ⟨by decide, by decide, rfl⟩ ⟨trivial, (tf_neF (a := (f (144 + p))) (b := (f ((144 + p) + 1))) rfl rfl (by have := hb (144 + p); have := hb ((144 + p) + 1); omega))⟩ ?_
            refine tf_go hx ftX11_doubleAt 2 [] 104 [some (.ref o), some (.int (nI p)), some (.int (nI (f ((144 + p) - 1)))), some (.int (nI (f (144 + p)))), some (.int (nI (f ((144 + p) + 1)))), some (.int (nI (f (184 + p))))] [.int (nI (f ((144 + p) - 1))), .int (nI (f (184 + p)))] S rfl ⟨by decide, by decide, rfl⟩ trivial ?_
            by_cases d2 : f (184 + p) = f (144 + p - 1)
            · refine tf_go hx ftX11_doubleAt 1 [false] 107 [some (.ref o), some (.int (nI p)), some (.int (nI (f ((144 + p) - 1)))), some (.int (nI (f (144 + p)))), some (.int (nI (f ((144 + p) + 1)))), some (.int (nI (f (184 + p))))] [] S rfl ⟨by decide, by decide, rfl⟩ ⟨trivial, (tf_neF (a := (f (184 + p))) (b := (f ((144 + p) - 1))) rfl rfl (by have := hb (184 + p); have := hb ((144 + p) - 1); omega))⟩ ?_
              refine tf_go hx ftX11_doubleAt 2 [] 110 [some (.ref o), some (.int (nI p)), some (.int (nI (f ((144 + p) - 1)))), some (.int (nI (f (144 + p)))), some (.int (nI (f ((144 + p) + 1)))), some (.int (nI (f (184 + p))))] [.int (nI (f ((144 + p) + 1))), .int (nI (f ((144 + p) - 1)))] S rfl ⟨by decide, by decide, rfl⟩ trivial ?_
              by_cases d3 : f (144 + p - 1) = f (144 + p + 1)
              · refine tf_go hx ftX11_doubleAt 2 [true] 121 [some (.ref o), some (.int (nI p)), some (.int (nI (f ((144 + p) - 1)))), some (.int (nI (f (144 + p)))), some (.int (nI (f ((144 + p) + 1)))), some (.int (nI (f (184 + p))))] [.int (-9)] S rfl ⟨by decide, by decide, rfl⟩ ⟨trivial, (tf_eqT (a := (f ((144 + p) - 1))) (b := (f ((144 + p) + 1))) rfl rfl (by have := hb ((144 + p) - 1); have := hb ((144 + p) + 1); omega))⟩ ?_
                exact tf_ret ftX11_doubleAt hR rfl ⟨by decide, by decide⟩ rfl rfl (by rw [if_neg (by rintro ⟨-, -, -, h | h⟩; exact h.2.2 d3; exact h.2.2 d3)]; rfl)
              · refine tf_go hx ftX11_doubleAt 5 [false] 121 [some (.ref o), some (.int (nI p)), some (.int (nI (f ((144 + p) - 1)))), some (.int (nI (f (144 + p)))), some (.int (nI (f ((144 + p) + 1)))), some (.int (nI (f (184 + p))))] [.int ((nI p) - 1)] S rfl ⟨by decide, by decide, rfl⟩ ⟨trivial, (tf_eqF (a := (f ((144 + p) - 1))) (b := (f ((144 + p) + 1))) rfl rfl (by have := hb ((144 + p) - 1); have := hb ((144 + p) + 1); omega) (by have := hb ((144 + p) - 1); have := hb ((144 + p) + 1); omega) (by have := hb ((144 + p) - 1); have := hb ((144 + p) + 1); omega))⟩ ?_
                rw [show ((nI p) - 1) = nI (p - 1) from (tf_sub rfl (rfl : (1 : Int32) = nI 1) (by omega))]
                exact tf_ret ftX11_doubleAt hR rfl ⟨by decide, by decide⟩ rfl rfl (by rw [if_pos ⟨c1, by omega, c3, Or.inr ⟨d1, d2, d3⟩⟩, tf_on_y (by omega)]; rfl)
            · refine tf_go hx ftX11_doubleAt 2 [true] 121 [some (.ref o), some (.int (nI p)), some (.int (nI (f ((144 + p) - 1)))), some (.int (nI (f (144 + p)))), some (.int (nI (f ((144 + p) + 1)))), some (.int (nI (f (184 + p))))] [.int (-9)] S rfl ⟨by decide, by decide, rfl⟩ ⟨trivial, (tf_eqF (a := (f (184 + p))) (b := (f ((144 + p) - 1))) rfl rfl (by have := hb (184 + p); have := hb ((144 + p) - 1); omega) (by have := hb (184 + p); have := hb ((144 + p) - 1); omega) (by have := hb (184 + p); have := hb ((144 + p) - 1); omega))⟩ ?_
              exact tf_ret ftX11_doubleAt hR rfl ⟨by decide, by decide⟩ rfl rfl (by rw [if_neg (by rintro ⟨-, -, -, h | h⟩; exact e1 h.1; exact d2 h.2.1)]; rfl)
          · refine tf_go hx ftX11_doubleAt 2 [true] 121 [some (.ref o), some (.int (nI p)), some (.int (nI (f ((144 + p) - 1)))), some (.int (nI (f (144 + p)))), some (.int (nI (f ((144 + p) + 1)))), some (.int (nI (f (184 + p))))] [.int (-9)] S rfl ⟨by decide, by decide, rfl⟩ ⟨trivial, (tf_eqF (a := (f (144 + p))) (b := (f ((144 + p) + 1))) rfl rfl (by have := hb (144 + p); have := hb ((144 + p) + 1); omega) (by have := hb (144 + p); have := hb ((144 + p) + 1); omega) (by have := hb (144 + p); have := hb ((144 + p) + 1); omega))⟩ ?_
            exact tf_ret ftX11_doubleAt hR rfl ⟨by decide, by decide⟩ rfl rfl (by rw [if_neg (by rintro ⟨-, -, -, h | h⟩; exact e1 h.1; exact d1 h.1)]; rfl)
      · refine tf_go hx ftX11_doubleAt 2 [false] 26 [some (.ref o), some (.int (nI p)), none, none, none, none] [.int (-9)] S rfl ⟨by decide, by decide, rfl⟩ ⟨trivial, (tf_ltF (a := (p + 1)) (b := (f 364)) rfl rfl (by have := hb 364; omega) (by have := hb 364; omega) (by have := hb 364; omega))⟩ ?_
        exact tf_ret ftX11_doubleAt hR rfl ⟨by decide, by decide⟩ rfl rfl (by rw [if_neg (by rintro ⟨-, -, h, -⟩; omega)]; rfl)
  · rw [tf_on_n c1]
    refine tf_go hx ftX11_doubleAt 3 [] 7 [some (.ref o), some (.int (-9)), none, none, none, none] [.int 1, .int (-9)] S rfl ⟨by decide, by decide, rfl⟩ trivial ?_
    refine tf_go hx ftX11_doubleAt 2 [true] 26 [some (.ref o), some (.int (-9)), none, none, none, none] [.int (-9)] S rfl ⟨by decide, by decide, rfl⟩ ⟨trivial, (by decide)⟩ ?_
    exact tf_ret ftX11_doubleAt hR rfl ⟨by decide, by decide⟩ rfl rfl (by unfold tf_do; rw [if_neg (by rintro ⟨h, -⟩; exact c1 h)]; rfl)

set_option maxHeartbeats 1000000 in
theorem m_byKeys {G : tf_G} {S : tf_Sg} {o : Nat} {f : Nat → Nat} (b t : Nat) (ho : tf_mo G o) (hf : tf_sf G S o f) (hg : tf_gd f) (hbb : b < 4) (ht : t < 2) : tf_Fn mX11_byKeys 2 0 0 G S [.ref o, .int (nI b), .int (nI t)] G S (some (.int (tf_on 41 (tf_bk f b t)))) := by
  obtain ⟨h1, ⟨r0, t0, n0⟩, ⟨r1, t1, n1⟩, ⟨r2, t2, n2⟩, ⟨r4, t4, n4⟩⟩ := id ho
  obtain ⟨hs, hb⟩ := id hf
  obtain ⟨⟨g1, g2, g3, g4⟩, g5, g6, g7, g8, g9, g10, g11⟩ := id hg
  refine tf_Fn_of (own := RX11) false ⟨by decide, rfl, by decide⟩ (Nat.le_of_ble_eq_true rfl) trivial (fun x hx hR => ?_)
  show tf_K x 0 0 G S 0 [some (.ref o), some (.int (nI b)), some (.int (nI t)), none, none, none, none, none] []
  refine tf_go hx ftX11_byKeys 1 [] 1 [some (.ref o), some (.int (nI b)), some (.int (nI t)), none, none, none, none, none] [.ref o] S rfl ⟨by decide, by decide, rfl⟩ trivial ?_
  refine tf_cV hx ftX11_byKeys (nx := 4) (As := []) (rest := []) (st2 := [.int (tf_on 41 (tf_sl f))]) (m_slipAt ho hf hg) rfl lX11_95 (by first | assumption | rfl | decide) rfl ⟨rfl, by decide, by decide, by decide, rfl, rfl⟩ ?_
  by_cases c1 : tf_sl f < 41
  · rw [tf_on_y c1]
    obtain ⟨l1, l2, l3, l4⟩ := tf_sl_le c1
    clear l3
    unfold tf_bk at hR
    generalize hq : tf_sl f = p at *
    have m1 := g6 p l2
    have m2 := g7 p (by omega)
    refine tf_go hx ftX11_byKeys 2 [] 6 [some (.ref o), some (.int (nI b)), some (.int (nI t)), some (.int (nI p)), none, none, none, none] [.int (nI p)] S rfl ⟨by decide, by decide, rfl⟩ trivial ?_
    refine tf_go hx ftX11_byKeys 1 [true] 12 [some (.ref o), some (.int (nI b)), some (.int (nI t)), some (.int (nI p)), none, none, none, none] [] S rfl ⟨by decide, by decide, rfl⟩ ⟨trivial, (tf_leT (a := 0) (b := p) (rfl : (0 : Int32) = nI 0) rfl (by omega) (by omega) (by omega))⟩ ?_
    refine tf_go hx ftX11_byKeys 8 [] 24 [some (.ref o), some (.int (nI b)), some (.int (nI t)), some (.int (nI p)), none, none, none, none] [.int (S (tf_rf G o 1) (Int32.toNatClampNeg (144 + (nI p)))), .int (nI b), .ref o] S rfl ⟨by decide, by decide, rfl⟩ ⟨⟨trivial, ⟨by first | assumption | rfl | decide | omega, by first | assumption | rfl | decide | omega⟩⟩, ⟨Or.inl (by first | assumption | rfl | decide | omega), by first | assumption | exact tf_in (n := (144 + p)) (tf_add (rfl : (144 : Int32) = nI 144) rfl) (by first | assumption | rfl) (by omega) (by decide)⟩⟩ ?_
    rw [show (S (tf_rf G o 1) (Int32.toNatClampNeg (144 + (nI p)))) = nI (f (144 + p)) from (tf_rd hs (tf_add (rfl : (144 : Int32) = nI 144) rfl) (by omega))]
    refine tf_cV hx ftX11_byKeys (nx := 27) (As := [.int (nI b), .int (nI (f (144 + p)))]) (rest := []) (st2 := [.int (tf_on 30 (tf_ke f b (f (144 + p))))]) (m_keyAt b (f (144 + p)) ho hf hbb (by omega)) rfl lX11_51 (by first | assumption | rfl | decide) rfl ⟨rfl, by decide, by decide, by decide, rfl, rfl⟩ ?_
    refine tf_go hx ftX11_byKeys 9 [] 41 [some (.ref o), some (.int (nI b)), some (.int (nI t)), some (.int (nI p)), some (.int (tf_on 30 (tf_ke f b (f (144 + p))))), none, none, none] [.int (S (tf_rf G o 1) (Int32.toNatClampNeg (184 + (nI p)))), .int (nI b), .ref o] S rfl ⟨by decide, by decide, rfl⟩ ⟨⟨trivial, ⟨by first | assumption | rfl | decide | omega, by first | assumption | rfl | decide | omega⟩⟩, ⟨Or.inl (by first | assumption | rfl | decide | omega), by first | assumption | exact tf_in (n := (184 + p)) (tf_add (rfl : (184 : Int32) = nI 184) rfl) (by first | assumption | rfl) (by omega) (by decide)⟩⟩ ?_
    rw [show (S (tf_rf G o 1) (Int32.toNatClampNeg (184 + (nI p)))) = nI (f (184 + p)) from (tf_rd hs (tf_add (rfl : (184 : Int32) = nI 184) rfl) (by omega))]
    refine tf_cV hx ftX11_byKeys (nx := 44) (As := [.int (nI b), .int (nI (f (184 + p)))]) (rest := []) (st2 := [.int (tf_on 30 (tf_ke f b (f (184 + p))))]) (m_keyAt b (f (184 + p)) ho hf hbb (by omega)) rfl lX11_51 (by first | assumption | rfl | decide) rfl ⟨rfl, by decide, by decide, by decide, rfl, rfl⟩ ?_
    have k1 := tf_ke_le f b (f (144 + p))
    have k2 := tf_ke_le f b (f (184 + p))
    generalize hk1 : tf_ke f b (f (144 + p)) = u at *
    generalize hk2 : tf_ke f b (f (184 + p)) = v at *
    by_cases c2 : u < 30
    · rw [tf_on_y c2]
      by_cases c3 : v < 30
      · rw [tf_on_y c3]
        refine tf_go hx ftX11_byKeys 2 [] 48 [some (.ref o), some (.int (nI b)), some (.int (nI t)), some (.int (nI p)), some (.int (nI u)), some (.int (nI v)), none, none] [.int (nI u)] S rfl ⟨by decide, by decide, rfl⟩ trivial ?_
        refine tf_go hx ftX11_byKeys 1 [false] 51 [some (.ref o), some (.int (nI b)), some (.int (nI t)), some (.int (nI p)), some (.int (nI u)), some (.int (nI v)), none, none] [] S rfl ⟨by decide, by decide, rfl⟩ ⟨trivial, (tf_ltF (a := u) (b := 0) rfl (rfl : (0 : Int32) = nI 0) (by omega) (by omega) (by omega))⟩ ?_
        refine tf_go hx ftX11_byKeys 1 [] 53 [some (.ref o), some (.int (nI b)), some (.int (nI t)), some (.int (nI p)), some (.int (nI u)), some (.int (nI v)), none, none] [.int (nI v)] S rfl ⟨by decide, by decide, rfl⟩ trivial ?_
        refine tf_go hx ftX11_byKeys 1 [true] 59 [some (.ref o), some (.int (nI b)), some (.int (nI t)), some (.int (nI p)), some (.int (nI u)), some (.int (nI v)), none, none] [] S rfl ⟨by decide, by decide, rfl⟩ ⟨trivial, (tf_leT (a := 0) (b := v) (rfl : (0 : Int32) = nI 0) rfl (by omega) (by omega) (by omega))⟩ ?_
        refine tf_go hx ftX11_byKeys 7 [] 70 [some (.ref o), some (.int (nI b)), some (.int (nI t)), some (.int (nI p)), some (.int (nI u)), some (.int (nI v)), none, none] [.int (((nI u) / 10) - ((nI v) / 10))] S rfl ⟨by decide, by decide, rfl⟩ ⟨⟨trivial, (by decide)⟩, (by decide)⟩ ?_
        rw [show ((nI u) / 10) = nI (u / 10) from (tf_div rfl (rfl : (10 : Int32) = nI 10) (by omega) (by decide) (by decide))]
        rw [show ((nI v) / 10) = nI (v / 10) from (tf_div rfl (rfl : (10 : Int32) = nI 10) (by omega) (by decide) (by decide))]
        have d1 := tf_di_le (show u / 10 < 3 by omega) (show v / 10 < 3 by omega)
        have d2 := tf_di_le (show u % 10 < 10 by omega) (show v % 10 < 10 by omega)
        refine tf_cS hx ftX11_byKeys (nx := 73) (As := [.int ((nI (u / 10)) - (nI (v / 10)))]) (rest := []) (st2 := [.int (nI (tf_di (u / 10) (v / 10)))]) ((by have h := m_amount (G := G) (S := S) (nI (u / 10) - nI (v / 10)); rw [tf_amt (by omega) (by omega)] at h; exact h)) rfl lX11_69 rfl ⟨rfl, by decide, by decide, by decide, rfl, rfl⟩ ?_
        refine tf_go hx ftX11_byKeys 2 [] 76 [some (.ref o), some (.int (nI b)), some (.int (nI t)), some (.int (nI p)), some (.int (nI u)), some (.int (nI v)), some (.int (nI (tf_di (u / 10) (v / 10)))), none] [.int (nI t)] S rfl ⟨by decide, by decide, rfl⟩ trivial ?_
        by_cases c4 : t = 0
        · refine tf_go hx ftX11_byKeys 1 [true] 108 [some (.ref o), some (.int (nI b)), some (.int (nI t)), some (.int (nI p)), some (.int (nI u)), some (.int (nI v)), some (.int (nI (tf_di (u / 10) (v / 10)))), none] [] S rfl ⟨by decide, by decide, rfl⟩ ⟨trivial, (tf_eqT (a := t) (b := 0) rfl (rfl : (0 : Int32) = nI 0) (by omega))⟩ ?_
          refine tf_go hx ftX11_byKeys 8 [] 121 [some (.ref o), some (.int (nI b)), some (.int (nI t)), some (.int (nI p)), some (.int (nI u)), some (.int (nI v)), some (.int (nI (tf_di (u / 10) (v / 10)))), none] [.int (((nI u) - (nI u) / 10 * 10) - ((nI v) - (nI v) / 10 * 10)), .int (nI (tf_di (u / 10) (v / 10)))] S rfl ⟨by decide, by decide, rfl⟩ ⟨⟨trivial, (by decide)⟩, (by decide)⟩ ?_
          rw [show ((nI u) - (nI u) / 10 * 10) = nI (u % 10) from (tf_rem rfl (rfl : (10 : Int32) = nI 10) (by omega) (by decide) (by decide))]
          rw [show ((nI v) - (nI v) / 10 * 10) = nI (v % 10) from (tf_rem rfl (rfl : (10 : Int32) = nI 10) (by omega) (by decide) (by decide))]
          refine tf_cS hx ftX11_byKeys (nx := 124) (As := [.int ((nI (u % 10)) - (nI (v % 10)))]) (rest := [.int (nI (tf_di (u / 10) (v / 10)))]) (st2 := [.int (nI (tf_di (u % 10) (v % 10))), .int (nI (tf_di (u / 10) (v / 10)))]) ((by have h := m_amount (G := G) (S := S) (nI (u % 10) - nI (v % 10)); rw [tf_amt (by omega) (by omega)] at h; exact h)) rfl lX11_69 rfl ⟨rfl, by decide, by decide, by decide, rfl, rfl⟩ ?_
          refine tf_go hx ftX11_byKeys 2 [] 126 [some (.ref o), some (.int (nI b)), some (.int (nI t)), some (.int (nI p)), some (.int (nI u)), some (.int (nI v)), some (.int (nI (tf_di (u / 10) (v / 10)))), none] [.int 1, .int ((nI (tf_di (u / 10) (v / 10))) + (nI (tf_di (u % 10) (v % 10))))] S rfl ⟨by decide, by decide, rfl⟩ trivial ?_
          rw [show ((nI (tf_di (u / 10) (v / 10))) + (nI (tf_di (u % 10) (v % 10)))) = nI ((tf_di (u / 10) (v / 10)) + (tf_di (u % 10) (v % 10))) from (tf_add rfl rfl)]
          by_cases c5 : tf_di (u / 10) (v / 10) + tf_di (u % 10) (v % 10) = 1
          · refine tf_go hx ftX11_byKeys 4 [false] 136 [some (.ref o), some (.int (nI b)), some (.int (nI t)), some (.int (nI p)), some (.int (nI u)), some (.int (nI v)), some (.int (nI (tf_di (u / 10) (v / 10)))), some (.int 1)] [] S rfl ⟨by decide, by decide, rfl⟩ ⟨trivial, (tf_neF (a := ((tf_di (u / 10) (v / 10)) + (tf_di (u % 10) (v % 10)))) (b := 1) rfl (rfl : (1 : Int32) = nI 1) (by omega))⟩ ?_
            refine tf_go hx ftX11_byKeys 4 [false] 147 [some (.ref o), some (.int (nI b)), some (.int (nI t)), some (.int (nI p)), some (.int (nI u)), some (.int (nI v)), some (.int (nI (tf_di (u / 10) (v / 10)))), some (.int 1)] [.int (nI p)] S rfl ⟨by decide, by decide, rfl⟩ ⟨trivial, (by decide)⟩ ?_
            exact tf_ret ftX11_byKeys hR rfl ⟨by decide, by decide⟩ rfl rfl (by rw [if_pos ⟨c1, c2, c3, by rw [if_neg (fun h => h c4)]; exact c5⟩, tf_on_y c1]; rfl)
          · refine tf_go hx ftX11_byKeys 3 [true] 136 [some (.ref o), some (.int (nI b)), some (.int (nI t)), some (.int (nI p)), some (.int (nI u)), some (.int (nI v)), some (.int (nI (tf_di (u / 10) (v / 10)))), some (.int 0)] [] S rfl ⟨by decide, by decide, rfl⟩ ⟨trivial, (tf_eqF (a := ((tf_di (u / 10) (v / 10)) + (tf_di (u % 10) (v % 10)))) (b := 1) rfl (rfl : (1 : Int32) = nI 1) (by omega) (by omega) (by omega))⟩ ?_
            refine tf_go hx ftX11_byKeys 3 [true] 147 [some (.ref o), some (.int (nI b)), some (.int (nI t)), some (.int (nI p)), some (.int (nI u)), some (.int (nI v)), some (.int (nI (tf_di (u / 10) (v / 10)))), some (.int 0)] [.int (-9)] S rfl ⟨by decide, by decide, rfl⟩ ⟨trivial, (by decide)⟩ ?_
            exact tf_ret ftX11_byKeys hR rfl ⟨by decide, by decide⟩ rfl rfl (by rw [if_neg (by rintro ⟨-, -, -, h⟩; rw [if_neg (fun h => h c4)] at h; exact c5 h)]; rfl)
        · refine tf_go hx ftX11_byKeys 1 [false] 79 [some (.ref o), some (.int (nI b)), some (.int (nI t)), some (.int (nI p)), some (.int (nI u)), some (.int (nI v)), some (.int (nI (tf_di (u / 10) (v / 10)))), none] [] S rfl ⟨by decide, by decide, rfl⟩ ⟨trivial, (tf_eqF (a := t) (b := 0) rfl (rfl : (0 : Int32) = nI 0) (by omega) (by omega) (by omega))⟩ ?_
          refine tf_go hx ftX11_byKeys 1 [] 81 [some (.ref o), some (.int (nI b)), some (.int (nI t)), some (.int (nI p)), some (.int (nI u)), some (.int (nI v)), some (.int (nI (tf_di (u / 10) (v / 10)))), none] [.int (nI (tf_di (u / 10) (v / 10)))] S rfl ⟨by decide, by decide, rfl⟩ trivial ?_
          by_cases c5 : tf_di (u / 10) (v / 10) = 0
          · refine tf_go hx ftX11_byKeys 1 [false] 84 [some (.ref o), some (.int (nI b)), some (.int (nI t)), some (.int (nI p)), some (.int (nI u)), some (.int (nI v)), some (.int (nI (tf_di (u / 10) (v / 10)))), none] [] S rfl ⟨by decide, by decide, rfl⟩ ⟨trivial, (tf_neF (a := (tf_di (u / 10) (v / 10))) (b := 0) rfl (rfl : (0 : Int32) = nI 0) (by omega))⟩ ?_
            refine tf_go hx ftX11_byKeys 8 [] 97 [some (.ref o), some (.int (nI b)), some (.int (nI t)), some (.int (nI p)), some (.int (nI u)), some (.int (nI v)), some (.int (nI (tf_di (u / 10) (v / 10)))), none] [.int (9 - ((nI u) - (nI u) / 10 * 10)), .int ((nI v) - (nI v) / 10 * 10)] S rfl ⟨by decide, by decide, rfl⟩ ⟨⟨trivial, (by decide)⟩, (by decide)⟩ ?_
            rw [show (9 - ((nI u) - (nI u) / 10 * 10)) = nI (9 - (u % 10)) from (tf_sub (rfl : (9 : Int32) = nI 9) (tf_rem rfl (rfl : (10 : Int32) = nI 10) (by omega) (by decide) (by decide)) (by omega))]
            rw [show ((nI v) - (nI v) / 10 * 10) = nI (v % 10) from (tf_rem rfl (rfl : (10 : Int32) = nI 10) (by omega) (by decide) (by decide))]
            by_cases c6 : v % 10 = 9 - u % 10
            · refine tf_go hx ftX11_byKeys 4 [false] 136 [some (.ref o), some (.int (nI b)), some (.int (nI t)), some (.int (nI p)), some (.int (nI u)), some (.int (nI v)), some (.int (nI (tf_di (u / 10) (v / 10)))), some (.int 1)] [] S rfl ⟨by decide, by decide, rfl⟩ ⟨trivial, (tf_neF (a := (v % 10)) (b := (9 - (u % 10))) rfl rfl (by omega))⟩ ?_
              refine tf_go hx ftX11_byKeys 4 [false] 147 [some (.ref o), some (.int (nI b)), some (.int (nI t)), some (.int (nI p)), some (.int (nI u)), some (.int (nI v)), some (.int (nI (tf_di (u / 10) (v / 10)))), some (.int 1)] [.int (nI p)] S rfl ⟨by decide, by decide, rfl⟩ ⟨trivial, (by decide)⟩ ?_
              exact tf_ret ftX11_byKeys hR rfl ⟨by decide, by decide⟩ rfl rfl (by rw [if_pos ⟨c1, c2, c3, by rw [if_pos c4]; exact ⟨c5, c6⟩⟩, tf_on_y c1]; rfl)
            · refine tf_go hx ftX11_byKeys 4 [true] 136 [some (.ref o), some (.int (nI b)), some (.int (nI t)), some (.int (nI p)), some (.int (nI u)), some (.int (nI v)), some (.int (nI (tf_di (u / 10) (v / 10)))), some (.int 0)] [] S rfl ⟨by decide, by decide, rfl⟩ ⟨trivial, (tf_eqF (a := (v % 10)) (b := (9 - (u % 10))) rfl rfl (by omega) (by omega) (by omega))⟩ ?_
              refine tf_go hx ftX11_byKeys 3 [true] 147 [some (.ref o), some (.int (nI b)), some (.int (nI t)), some (.int (nI p)), some (.int (nI u)), some (.int (nI v)), some (.int (nI (tf_di (u / 10) (v / 10)))), some (.int 0)] [.int (-9)] S rfl ⟨by decide, by decide, rfl⟩ ⟨trivial, (by decide)⟩ ?_
              exact tf_ret ftX11_byKeys hR rfl ⟨by decide, by decide⟩ rfl rfl (by rw [if_neg (by rintro ⟨-, -, -, h⟩; rw [if_pos c4] at h; exact c6 h.2)]; rfl)
          · refine tf_go hx ftX11_byKeys 4 [true] 136 [some (.ref o), some (.int (nI b)), some (.int (nI t)), some (.int (nI p)), some (.int (nI u)), some (.int (nI v)), some (.int (nI (tf_di (u / 10) (v / 10)))), some (.int 0)] [] S rfl ⟨by decide, by decide, rfl⟩ ⟨trivial, (tf_eqF (a := (tf_di (u / 10) (v / 10))) (b := 0) rfl (rfl : (0 : Int32) = nI 0) (by omega) (by omega) (by omega))⟩ ?_
            refine tf_go hx ftX11_byKeys 3 [true] 147 [some (.ref o), some (.int (nI b)), some (.int (nI t)), some (.int (nI p)), some (.int (nI u)), some (.int (nI v)), some (.int (nI (tf_di (u / 10) (v / 10)))), some (.int 0)] [.int (-9)] S rfl ⟨by decide, by decide, rfl⟩ ⟨trivial, (by decide)⟩ ?_
            exact tf_ret ftX11_byKeys hR rfl ⟨by decide, by decide⟩ rfl rfl (by rw [if_neg (by rintro ⟨-, -, -, h⟩; rw [if_pos c4] at h; exact c5 h.1)]; rfl)
      · rw [tf_on_n c3]
        refine tf_go hx ftX11_byKeys 2 [] 48 [some (.ref o), some (.int (nI b)), some (.int (nI t)), some (.int (nI p)), some (.int (nI u)), some (.int (-9)), none, none] [.int (nI u)] S rfl ⟨by decide, by decide, rfl⟩ trivial ?_
        refine tf_go hx ftX11_byKeys 1 [false] 51 [some (.ref o), some (.int (nI b)), some (.int (nI t)), some (.int (nI p)), some (.int (nI u)), some (.int (-9)), none, none] [] S rfl ⟨by decide, by decide, rfl⟩ ⟨trivial, (tf_ltF (a := u) (b := 0) rfl (rfl : (0 : Int32) = nI 0) (by omega) (by omega) (by omega))⟩ ?_
        refine tf_go hx ftX11_byKeys 1 [] 53 [some (.ref o), some (.int (nI b)), some (.int (nI t)), some (.int (nI p)), some (.int (nI u)), some (.int (-9)), none, none] [.int (-9)] S rfl ⟨by decide, by decide, rfl⟩ trivial ?_
        refine tf_go hx ftX11_byKeys 2 [false] 58 [some (.ref o), some (.int (nI b)), some (.int (nI t)), some (.int (nI p)), some (.int (nI u)), some (.int (-9)), none, none] [.int (-9)] S rfl ⟨by decide, by decide, rfl⟩ ⟨trivial, (by decide)⟩ ?_
        exact tf_ret ftX11_byKeys hR rfl ⟨by decide, by decide⟩ rfl rfl (by rw [if_neg (by rintro ⟨-, -, h, -⟩; exact c3 h)]; rfl)
    · rw [tf_on_n c2]
      refine tf_go hx ftX11_byKeys 2 [] 48 [some (.ref o), some (.int (nI b)), some (.int (nI t)), some (.int (nI p)), some (.int (-9)), some (.int (tf_on 30 v)), none, none] [.int (-9)] S rfl ⟨by decide, by decide, rfl⟩ trivial ?_
      refine tf_go hx ftX11_byKeys 2 [true] 58 [some (.ref o), some (.int (nI b)), some (.int (nI t)), some (.int (nI p)), some (.int (-9)), some (.int (tf_on 30 v)), none, none] [.int (-9)] S rfl ⟨by decide, by decide, rfl⟩ ⟨trivial, (by decide)⟩ ?_
      exact tf_ret ftX11_byKeys hR rfl ⟨by decide, by decide⟩ rfl rfl (by rw [if_neg (by rintro ⟨-, h, -⟩; exact c2 h)]; rfl)
  · rw [tf_on_n c1]
    refine tf_go hx ftX11_byKeys 2 [] 6 [some (.ref o), some (.int (nI b)), some (.int (nI t)), some (.int (-9)), none, none, none, none] [.int (-9)] S rfl ⟨by decide, by decide, rfl⟩ trivial ?_
    refine tf_go hx ftX11_byKeys 2 [false] 11 [some (.ref o), some (.int (nI b)), some (.int (nI t)), some (.int (-9)), none, none, none, none] [.int (-9)] S rfl ⟨by decide, by decide, rfl⟩ ⟨trivial, (by decide)⟩ ?_
    exact tf_ret ftX11_byKeys hR rfl ⟨by decide, by decide⟩ rfl rfl (by unfold tf_bk; rw [if_neg (by rintro ⟨h, -⟩; exact c1 h)]; rfl)

set_option maxHeartbeats 1000000 in
theorem m_earlyAt {G : tf_G} {S : tf_Sg} {o : Nat} {f : Nat → Nat} (ho : tf_mo G o) (hf : tf_sf G S o f) (hg : tf_gd f) : tf_Fn mX11_earlyAt 2 0 0 G S [.ref o] G S (some (.int (tf_on 41 (tf_ea f)))) := by
  obtain ⟨h1, ⟨r0, t0, n0⟩, ⟨r1, t1, n1⟩, ⟨r2, t2, n2⟩, ⟨r4, t4, n4⟩⟩ := id ho
  obtain ⟨hs, hb⟩ := id hf
  obtain ⟨⟨g1, g2, g3, g4⟩, g5, g6, g7, g8, g9, g10, g11⟩ := id hg
  refine tf_Fn_of (own := RX11) false ⟨by decide, rfl, by decide⟩ (Nat.le_of_ble_eq_true rfl) trivial (fun x hx hR => ?_)
  show tf_K x 0 0 G S 0 [some (.ref o), none] []
  refine tf_go hx ftX11_earlyAt 1 [] 1 [some (.ref o), none] [.ref o] S rfl ⟨by decide, by decide, rfl⟩ trivial ?_
  refine tf_cV hx ftX11_earlyAt (nx := 4) (As := []) (rest := []) (st2 := [.int (tf_on 41 (tf_sl f))]) (m_slipAt ho hf hg) rfl lX11_95 (by first | assumption | rfl | decide) rfl ⟨rfl, by decide, by decide, by decide, rfl, rfl⟩ ?_
  by_cases c1 : tf_sl f < 41
  · rw [tf_on_y c1]
    obtain ⟨l1, l2, l3, l4⟩ := tf_sl_le c1
    clear l3
    unfold tf_ea at hR
    generalize hq : tf_sl f = p at *
    refine tf_go hx ftX11_earlyAt 2 [] 6 [some (.ref o), some (.int (nI p))] [.int (nI p)] S rfl ⟨by decide, by decide, rfl⟩ trivial ?_
    refine tf_go hx ftX11_earlyAt 1 [true] 12 [some (.ref o), some (.int (nI p))] [] S rfl ⟨by decide, by decide, rfl⟩ ⟨trivial, (tf_leT (a := 0) (b := p) (rfl : (0 : Int32) = nI 0) rfl (by omega) (by omega) (by omega))⟩ ?_
    refine tf_go hx ftX11_earlyAt 7 [] 23 [some (.ref o), some (.int (nI p))] [.int (S (tf_rf G o 1) (Int32.toNatClampNeg 364)), .int ((nI p) + 1)] S rfl ⟨by decide, by decide, rfl⟩ ⟨⟨trivial, ⟨by first | assumption | rfl | decide | omega, by first | assumption | rfl | decide | omega⟩⟩, ⟨Or.inl (by first | assumption | rfl | decide | omega), by first | assumption | exact tf_in (n := 364) (rfl : (364 : Int32) = nI 364) (by first | assumption | rfl) (by omega) (by decide)⟩⟩ ?_
    rw [show (S (tf_rf G o 1) (Int32.toNatClampNeg 364)) = nI (f 364) from (tf_rd hs (rfl : (364 : Int32) = nI 364) (by omega))]
    rw [show ((nI p) + 1) = nI (p + 1) from (tf_add rfl (rfl : (1 : Int32) = nI 1))]
    by_cases e1 : p + 1 < f 364
    · refine tf_go hx ftX11_earlyAt 1 [false] 26 [some (.ref o), some (.int (nI p))] [] S rfl ⟨by decide, by decide, rfl⟩ ⟨trivial, (tf_leF (a := (f 364)) (b := (p + 1)) rfl rfl (by have := hb 364; omega) (by have := hb 364; omega) (by have := hb 364; omega))⟩ ?_
      refine tf_go hx ftX11_earlyAt 14 [] 48 [some (.ref o), some (.int (nI p))] [.int (S (tf_rf G o 1) (Int32.toNatClampNeg (184 + (nI p)))), .int (S (tf_rf G o 1) (Int32.toNatClampNeg ((144 + (nI p)) + 1)))] S rfl ⟨by decide, by decide, rfl⟩ ⟨⟨⟨⟨trivial, ⟨by first | assumption | rfl | decide | omega, by first | assumption | rfl | decide | omega⟩⟩, ⟨Or.inl (by first | assumption | rfl | decide | omega), by first | assumption | exact tf_in (n := ((144 + p) + 1)) (tf_add (tf_add (rfl : (144 : Int32) = nI 144) rfl) (rfl : (1 : Int32) = nI 1)) (by first | assumption | rfl) (by omega) (by decide)⟩⟩, ⟨by first | assumption | rfl | decide | omega, by first | assumption | rfl | decide | omega⟩⟩, ⟨Or.inl (by first | assumption | rfl | decide | omega), by first | assumption | exact tf_in (n := (184 + p)) (tf_add (rfl : (184 : Int32) = nI 184) rfl) (by first | assumption | rfl) (by omega) (by decide)⟩⟩ ?_
      rw [show (S (tf_rf G o 1) (Int32.toNatClampNeg (184 + (nI p)))) = nI (f (184 + p)) from (tf_rd hs (tf_add (rfl : (184 : Int32) = nI 184) rfl) (by omega))]
      rw [show (S (tf_rf G o 1) (Int32.toNatClampNeg ((144 + (nI p)) + 1))) = nI (f ((144 + p) + 1)) from (tf_rd hs (tf_add (tf_add (rfl : (144 : Int32) = nI 144) rfl) (rfl : (1 : Int32) = nI 1)) (by omega))]
      by_cases e2 : f (144 + p + 1) = f (184 + p)
      · refine tf_go hx ftX11_earlyAt 3 [true] 96 [some (.ref o), some (.int (nI p))] [.int (nI p)] S rfl ⟨by decide, by decide, rfl⟩ ⟨trivial, (tf_eqT (a := (f ((144 + p) + 1))) (b := (f (184 + p))) rfl rfl (by have := hb ((144 + p) + 1); have := hb (184 + p); omega))⟩ ?_
        exact tf_ret ftX11_earlyAt hR rfl ⟨by decide, by decide⟩ rfl rfl (by rw [if_pos ⟨c1, Or.inl ⟨e1, e2⟩⟩, tf_on_y c1]; rfl)
      · refine tf_go hx ftX11_earlyAt 1 [false] 51 [some (.ref o), some (.int (nI p))] [] S rfl ⟨by decide, by decide, rfl⟩ ⟨trivial, (tf_eqF (a := (f ((144 + p) + 1))) (b := (f (184 + p))) rfl rfl (by have := hb ((144 + p) + 1); have := hb (184 + p); omega) (by have := hb ((144 + p) + 1); have := hb (184 + p); omega) (by have := hb ((144 + p) + 1); have := hb (184 + p); omega))⟩ ?_
        refine tf_go hx ftX11_earlyAt 7 [] 62 [some (.ref o), some (.int (nI p))] [.int (S (tf_rf G o 1) (Int32.toNatClampNeg 364)), .int ((nI p) + 2)] S rfl ⟨by decide, by decide, rfl⟩ ⟨⟨trivial, ⟨by first | assumption | rfl | decide | omega, by first | assumption | rfl | decide | omega⟩⟩, ⟨Or.inl (by first | assumption | rfl | decide | omega), by first | assumption | exact tf_in (n := 364) (rfl : (364 : Int32) = nI 364) (by first | assumption | rfl) (by omega) (by decide)⟩⟩ ?_
        rw [show (S (tf_rf G o 1) (Int32.toNatClampNeg 364)) = nI (f 364) from (tf_rd hs (rfl : (364 : Int32) = nI 364) (by omega))]
        rw [show ((nI p) + 2) = nI (p + 2) from (tf_add rfl (rfl : (2 : Int32) = nI 2))]
        by_cases d1 : p + 2 < f 364
        · refine tf_go hx ftX11_earlyAt 1 [false] 65 [some (.ref o), some (.int (nI p))] [] S rfl ⟨by decide, by decide, rfl⟩ ⟨trivial, (tf_leF (a := (f 364)) (b := (p + 2)) rfl rfl (by have := hb 364; omega) (by have := hb 364; omega) (by have := hb 364; omega))⟩ ?_
          refine tf_go hx ftX11_earlyAt 14 [] 87 [some (.ref o), some (.int (nI p))] [.int (S (tf_rf G o 1) (Int32.toNatClampNeg (184 + (nI p)))), .int (S (tf_rf G o 1) (Int32.toNatClampNeg ((144 + (nI p)) + 2)))] S rfl ⟨by decide, by decide, rfl⟩ ⟨⟨⟨⟨trivial, ⟨by first | assumption | rfl | decide | omega, by first | assumption | rfl | decide | omega⟩⟩, ⟨Or.inl (by first | assumption | rfl | decide | omega), by first | assumption | exact tf_in (n := ((144 + p) + 2)) (tf_add (tf_add (rfl : (144 : Int32) = nI 144) rfl) (rfl : (2 : Int32) = nI 2)) (by first | assumption | rfl) (by omega) (by decide)⟩⟩, ⟨by first | assumption | rfl | decide | omega, by first | assumption | rfl | decide | omega⟩⟩, ⟨Or.inl (by first | assumption | rfl | decide | omega), by first | assumption | exact tf_in (n := (184 + p)) (tf_add (rfl : (184 : Int32) = nI 184) rfl) (by first | assumption | rfl) (by omega) (by decide)⟩⟩ ?_
          rw [show (S (tf_rf G o 1) (Int32.toNatClampNeg (184 + (nI p)))) = nI (f (184 + p)) from (tf_rd hs (tf_add (rfl : (184 : Int32) = nI 184) rfl) (by omega))]
          rw [show (S (tf_rf G o 1) (Int32.toNatClampNeg ((144 + (nI p)) + 2))) = nI (f ((144 + p) + 2)) from (tf_rd hs (tf_add (tf_add (rfl : (144 : Int32) = nI 144) rfl) (rfl : (2 : Int32) = nI 2)) (by omega))]
          by_cases d2 : f (144 + p + 2) = f (184 + p)
          · refine tf_go hx ftX11_earlyAt 3 [false] 96 [some (.ref o), some (.int (nI p))] [.int (nI p)] S rfl ⟨by decide, by decide, rfl⟩ ⟨trivial, (tf_neF (a := (f ((144 + p) + 2))) (b := (f (184 + p))) rfl rfl (by have := hb ((144 + p) + 2); have := hb (184 + p); omega))⟩ ?_
            exact tf_ret ftX11_earlyAt hR rfl ⟨by decide, by decide⟩ rfl rfl (by rw [if_pos ⟨c1, Or.inr ⟨d1, d2⟩⟩, tf_on_y c1]; rfl)
          · refine tf_go hx ftX11_earlyAt 2 [true] 96 [some (.ref o), some (.int (nI p))] [.int (-9)] S rfl ⟨by decide, by decide, rfl⟩ ⟨trivial, (tf_eqF (a := (f ((144 + p) + 2))) (b := (f (184 + p))) rfl rfl (by have := hb ((144 + p) + 2); have := hb (184 + p); omega) (by have := hb ((144 + p) + 2); have := hb (184 + p); omega) (by have := hb ((144 + p) + 2); have := hb (184 + p); omega))⟩ ?_
            exact tf_ret ftX11_earlyAt hR rfl ⟨by decide, by decide⟩ rfl rfl (by rw [if_neg (by rintro ⟨-, h | h⟩; exact e2 h.2; exact d2 h.2)]; rfl)
        · refine tf_go hx ftX11_earlyAt 2 [true] 96 [some (.ref o), some (.int (nI p))] [.int (-9)] S rfl ⟨by decide, by decide, rfl⟩ ⟨trivial, (tf_leT (a := (f 364)) (b := (p + 2)) rfl rfl (by have := hb 364; omega) (by have := hb 364; omega) (by have := hb 364; omega))⟩ ?_
          exact tf_ret ftX11_earlyAt hR rfl ⟨by decide, by decide⟩ rfl rfl (by rw [if_neg (by rintro ⟨-, h | h⟩; exact e2 h.2; exact d1 h.1)]; rfl)
    · refine tf_go hx ftX11_earlyAt 1 [true] 51 [some (.ref o), some (.int (nI p))] [] S rfl ⟨by decide, by decide, rfl⟩ ⟨trivial, (tf_leT (a := (f 364)) (b := (p + 1)) rfl rfl (by have := hb 364; omega) (by have := hb 364; omega) (by have := hb 364; omega))⟩ ?_
      refine tf_go hx ftX11_earlyAt 7 [] 62 [some (.ref o), some (.int (nI p))] [.int (S (tf_rf G o 1) (Int32.toNatClampNeg 364)), .int ((nI p) + 2)] S rfl ⟨by decide, by decide, rfl⟩ ⟨⟨trivial, ⟨by first | assumption | rfl | decide | omega, by first | assumption | rfl | decide | omega⟩⟩, ⟨Or.inl (by first | assumption | rfl | decide | omega), by first | assumption | exact tf_in (n := 364) (rfl : (364 : Int32) = nI 364) (by first | assumption | rfl) (by omega) (by decide)⟩⟩ ?_
      rw [show (S (tf_rf G o 1) (Int32.toNatClampNeg 364)) = nI (f 364) from (tf_rd hs (rfl : (364 : Int32) = nI 364) (by omega))]
      rw [show ((nI p) + 2) = nI (p + 2) from (tf_add rfl (rfl : (2 : Int32) = nI 2))]
      by_cases d1 : p + 2 < f 364
      · refine tf_go hx ftX11_earlyAt 1 [false] 65 [some (.ref o), some (.int (nI p))] [] S rfl ⟨by decide, by decide, rfl⟩ ⟨trivial, (tf_leF (a := (f 364)) (b := (p + 2)) rfl rfl (by have := hb 364; omega) (by have := hb 364; omega) (by have := hb 364; omega))⟩ ?_
        refine tf_go hx ftX11_earlyAt 14 [] 87 [some (.ref o), some (.int (nI p))] [.int (S (tf_rf G o 1) (Int32.toNatClampNeg (184 + (nI p)))), .int (S (tf_rf G o 1) (Int32.toNatClampNeg ((144 + (nI p)) + 2)))] S rfl ⟨by decide, by decide, rfl⟩ ⟨⟨⟨⟨trivial, ⟨by first | assumption | rfl | decide | omega, by first | assumption | rfl | decide | omega⟩⟩, ⟨Or.inl (by first | assumption | rfl | decide | omega), by first | assumption | exact tf_in (n := ((144 + p) + 2)) (tf_add (tf_add (rfl : (144 : Int32) = nI 144) rfl) (rfl : (2 : Int32) = nI 2)) (by first | assumption | rfl) (by omega) (by decide)⟩⟩, ⟨by first | assumption | rfl | decide | omega, by first | assumption | rfl | decide | omega⟩⟩, ⟨Or.inl (by first | assumption | rfl | decide | omega), by first | assumption | exact tf_in (n := (184 + p)) (tf_add (rfl : (184 : Int32) = nI 184) rfl) (by first | assumption | rfl) (by omega) (by decide)⟩⟩ ?_
        rw [show (S (tf_rf G o 1) (Int32.toNatClampNeg (184 + (nI p)))) = nI (f (184 + p)) from (tf_rd hs (tf_add (rfl : (184 : Int32) = nI 184) rfl) (by omega))]
        rw [show (S (tf_rf G o 1) (Int32.toNatClampNeg ((144 + (nI p)) + 2))) = nI (f ((144 + p) + 2)) from (tf_rd hs (tf_add (tf_add (rfl : (144 : Int32) = nI 144) rfl) (rfl : (2 : Int32) = nI 2)) (by omega))]
        by_cases d2 : f (144 + p + 2) = f (184 + p)
        · refine tf_go hx ftX11_earlyAt 3 [false] 96 [some (.ref o), some (.int (nI p))] [.int (nI p)] S rfl ⟨by decide, by decide, rfl⟩ ⟨trivial, (tf_neF (a := (f ((144 + p) + 2))) (b := (f (184 + p))) rfl rfl (by have := hb ((144 + p) + 2); have := hb (184 + p); omega))⟩ ?_
          exact tf_ret ftX11_earlyAt hR rfl ⟨by decide, by decide⟩ rfl rfl (by rw [if_pos ⟨c1, Or.inr ⟨d1, d2⟩⟩, tf_on_y c1]; rfl)
        · refine tf_go hx ftX11_earlyAt 2 [true] 96 [some (.ref o), some (.int (nI p))] [.int (-9)] S rfl ⟨by decide, by decide, rfl⟩ ⟨trivial, (tf_eqF (a := (f ((144 + p) + 2))) (b := (f (184 + p))) rfl rfl (by have := hb ((144 + p) + 2); have := hb (184 + p); omega) (by have := hb ((144 + p) + 2); have := hb (184 + p); omega) (by have := hb ((144 + p) + 2); have := hb (184 + p); omega))⟩ ?_
          exact tf_ret ftX11_earlyAt hR rfl ⟨by decide, by decide⟩ rfl rfl (by rw [if_neg (by rintro ⟨-, h | h⟩; exact e1 h.1; exact d2 h.2)]; rfl)
      · refine tf_go hx ftX11_earlyAt 2 [true] 96 [some (.ref o), some (.int (nI p))] [.int (-9)] S rfl ⟨by decide, by decide, rfl⟩ ⟨trivial, (tf_leT (a := (f 364)) (b := (p + 2)) rfl rfl (by have := hb 364; omega) (by have := hb 364; omega) (by have := hb 364; omega))⟩ ?_
        exact tf_ret ftX11_earlyAt hR rfl ⟨by decide, by decide⟩ rfl rfl (by rw [if_neg (by rintro ⟨-, h | h⟩; exact e1 h.1; exact d1 h.1)]; rfl)
  · rw [tf_on_n c1]
    refine tf_go hx ftX11_earlyAt 2 [] 6 [some (.ref o), some (.int (-9))] [.int (-9)] S rfl ⟨by decide, by decide, rfl⟩ trivial ?_
    refine tf_go hx ftX11_earlyAt 2 [false] 11 [some (.ref o), some (.int (-9))] [.int (-9)] S rfl ⟨by decide, by decide, rfl⟩ ⟨trivial, (by decide)⟩ ?_
    exact tf_ret ftX11_earlyAt hR rfl ⟨by decide, by decide⟩ rfl rfl (by unfold tf_ea; rw [if_neg (by rintro ⟨h, -⟩; exact c1 h)]; rfl)

set_option maxHeartbeats 1000000 in
theorem m_lostAt {G : tf_G} {S : tf_Sg} {o : Nat} {f : Nat → Nat} (ho : tf_mo G o) (hf : tf_sf G S o f) (hg : tf_gd f) : tf_Fn mX11_lostAt 1 0 0 G S [.ref o] G S (some (.int (tf_on 41 (tf_lo f)))) := by
  obtain ⟨h1, ⟨r0, t0, n0⟩, ⟨r1, t1, n1⟩, ⟨r2, t2, n2⟩, ⟨r4, t4, n4⟩⟩ := id ho
  obtain ⟨hs, hb⟩ := id hf
  obtain ⟨⟨g1, g2, g3, g4⟩, g5, g6, g7, g8, g9, g10, g11⟩ := id hg
  refine tf_Fn_of (own := RX11) false ⟨by decide, rfl, by decide⟩ (Nat.le_of_ble_eq_true rfl) trivial (fun x hx hR => ?_)
  show tf_K x 0 0 G S 0 [some (.ref o), none, none, none] []
  unfold tf_lo at hR
  refine tf_go hx ftX11_lostAt 7 [] 15 [some (.ref o), none, none, none] [.int 364, .ref (tf_rf G o 1), .int (S (tf_rf G o 1) (Int32.toNatClampNeg 365))] S rfl ⟨by decide, by decide, rfl⟩ ⟨⟨⟨trivial, ⟨by first | assumption | rfl | decide | omega, by first | assumption | rfl | decide | omega⟩⟩, ⟨Or.inl (by first | assumption | rfl | decide | omega), by first | assumption | exact tf_in (n := 365) (rfl : (365 : Int32) = nI 365) (by first | assumption | rfl) (by omega) (by decide)⟩⟩, ⟨by first | assumption | rfl | decide | omega, by first | assumption | rfl | decide | omega⟩⟩ ?_
  rw [show (S (tf_rf G o 1) (Int32.toNatClampNeg 365)) = nI (f 365) from (tf_rd hs (rfl : (365 : Int32) = nI 365) (by omega))]
  by_cases c0 : 1 ≤ f 364
  · refine tf_go hx ftX11_lostAt 2 [] 17 [some (.ref o), none, none, none] [.int 1, .int (S (tf_rf G o 1) (Int32.toNatClampNeg 364)), .int (nI (f 365))] S rfl ⟨by decide, by decide, rfl⟩ ⟨trivial, ⟨Or.inl (by first | assumption | rfl | decide | omega), by first | assumption | exact tf_in (n := 364) (rfl : (364 : Int32) = nI 364) (by first | assumption | rfl) (by omega) (by decide)⟩⟩ ?_
    rw [show (S (tf_rf G o 1) (Int32.toNatClampNeg 364)) = nI (f 364) from (tf_rd hs (rfl : (364 : Int32) = nI 364) (by omega))]
    by_cases c1 : f 365 + 1 = f 364
    · refine tf_go hx ftX11_lostAt 4 [true] 26 [some (.ref o), some (.int 0), none, none] [] S rfl ⟨by decide, by decide, rfl⟩ ⟨trivial, (tf_eqT (a := (f 365)) (b := ((f 364) - 1)) rfl (tf_sub rfl (rfl : (1 : Int32) = nI 1) (by have := hb 364; omega)) (by have := hb 365; have := hb 364; omega))⟩ ?_
      have loop : ∀ (m k : Nat), k + m = (f 364) → (tf_fst (fun i => tf_all (tf_lp f i) (f 365) 0) m k = tf_fst (fun i => tf_all (tf_lp f i) (f 365) 0) (f 364) 0) → tf_K x 0 0 G S 26 [some (.ref o), some (.int (nI k)), none, none] [] := by
        intro m
        induction m with
        | zero =>
          intro k hk he
          rw [tf_fst_0] at he
          refine tf_go hx ftX11_lostAt 5 [] 35 [some (.ref o), some (.int (nI k)), none, none] [.int (S (tf_rf G o 1) (Int32.toNatClampNeg 364)), .int (nI k)] S rfl ⟨by decide, by decide, rfl⟩ ⟨⟨trivial, ⟨by first | assumption | rfl | decide | omega, by first | assumption | rfl | decide | omega⟩⟩, ⟨Or.inl (by first | assumption | rfl | decide | omega), by first | assumption | exact tf_in (n := 364) (rfl : (364 : Int32) = nI 364) (by first | assumption | rfl) (by omega) (by decide)⟩⟩ ?_
          rw [show (S (tf_rf G o 1) (Int32.toNatClampNeg 364)) = nI (f 364) from (tf_rd hs (rfl : (364 : Int32) = nI 364) (by omega))]
          refine tf_go hx ftX11_lostAt 2 [true] 118 [some (.ref o), some (.int (nI k)), none, none] [.int (-9)] S rfl ⟨by decide, by decide, rfl⟩ ⟨trivial, (tf_leT (a := (f 364)) (b := k) rfl rfl (by have := hb 364; omega) (by have := hb 364; omega) (by have := hb 364; omega))⟩ ?_
          exact tf_ret ftX11_lostAt hR rfl ⟨by decide, by decide⟩ rfl rfl (by rw [if_neg (by rintro ⟨-, h⟩; omega)]; rfl)
        | succ m ih =>
          intro k hk he
          refine tf_go hx ftX11_lostAt 5 [] 35 [some (.ref o), some (.int (nI k)), none, none] [.int (S (tf_rf G o 1) (Int32.toNatClampNeg 364)), .int (nI k)] S rfl ⟨by decide, by decide, rfl⟩ ⟨⟨trivial, ⟨by first | assumption | rfl | decide | omega, by first | assumption | rfl | decide | omega⟩⟩, ⟨Or.inl (by first | assumption | rfl | decide | omega), by first | assumption | exact tf_in (n := 364) (rfl : (364 : Int32) = nI 364) (by first | assumption | rfl) (by omega) (by decide)⟩⟩ ?_
          rw [show (S (tf_rf G o 1) (Int32.toNatClampNeg 364)) = nI (f 364) from (tf_rd hs (rfl : (364 : Int32) = nI 364) (by omega))]
          refine tf_go hx ftX11_lostAt 5 [false] 42 [some (.ref o), some (.int (nI k)), some (.int 1), some (.int 0)] [] S rfl ⟨by decide, by decide, rfl⟩ ⟨trivial, (tf_leF (a := (f 364)) (b := k) rfl rfl (by have := hb 364; omega) (by have := hb 364; omega) (by have := hb 364; omega))⟩ ?_
          have inner : ∀ (i j : Nat) (q : Int32), j + i = f 365 → (q = 1 ∧ tf_all (tf_lp f k) i j = tf_all (tf_lp f k) (f 365) 0) ∨ (q = 0 ∧ tf_all (tf_lp f k) (f 365) 0 = false) → tf_K x 0 0 G S 42 [some (.ref o), some (.int (nI k)), some (.int q), some (.int (nI j))] [] := by
            intro i
            induction i with
            | zero =>
              intro j q hj hq
              refine tf_go hx ftX11_lostAt 5 [] 51 [some (.ref o), some (.int (nI k)), some (.int q), some (.int (nI j))] [.int (S (tf_rf G o 1) (Int32.toNatClampNeg 365)), .int (nI j)] S rfl ⟨by decide, by decide, rfl⟩ ⟨⟨trivial, ⟨by first | assumption | rfl | decide | omega, by first | assumption | rfl | decide | omega⟩⟩, ⟨Or.inl (by first | assumption | rfl | decide | omega), by first | assumption | exact tf_in (n := 365) (rfl : (365 : Int32) = nI 365) (by first | assumption | rfl) (by omega) (by decide)⟩⟩ ?_
              rw [show (S (tf_rf G o 1) (Int32.toNatClampNeg 365)) = nI (f 365) from (tf_rd hs (rfl : (365 : Int32) = nI 365) (by omega))]
              refine tf_go hx ftX11_lostAt 1 [true] 104 [some (.ref o), some (.int (nI k)), some (.int q), some (.int (nI j))] [] S rfl ⟨by decide, by decide, rfl⟩ ⟨trivial, (tf_leT (a := (f 365)) (b := j) rfl rfl (by have := hb 365; omega) (by have := hb 365; omega) (by have := hb 365; omega))⟩ ?_
              refine tf_go hx ftX11_lostAt 1 [] 105 [some (.ref o), some (.int (nI k)), some (.int q), some (.int (nI j))] [.int q] S rfl ⟨by decide, by decide, rfl⟩ trivial ?_
              rcases hq with ⟨rfl, hq⟩ | ⟨rfl, hq⟩
              · rw [tf_all_0] at hq
                refine tf_go hx ftX11_lostAt 2 [false] 109 [some (.ref o), some (.int (nI k)), some (.int 1), some (.int (nI j))] [.int (nI k)] S rfl ⟨by decide, by decide, rfl⟩ ⟨trivial, (by decide)⟩ ?_
                exact tf_ret ftX11_lostAt hR rfl ⟨by decide, by decide⟩ rfl rfl (by rw [tf_fst_y (P := fun i => tf_all (tf_lp f i) (f 365) 0) hq.symm] at he; rw [if_pos ⟨c1, by omega⟩, ← he, tf_on_y (by omega)]; rfl)
              · refine tf_go hx ftX11_lostAt 3 [true] 26 [some (.ref o), some (.int ((nI k) + 1)), some (.int 0), some (.int (nI j))] [] S rfl ⟨by decide, by decide, rfl⟩ ⟨trivial, (by decide)⟩ ?_
                rw [show ((nI k) + 1) = nI (k + 1) from (tf_add rfl (rfl : (1 : Int32) = nI 1))]
                refine tf_fgt [some (.ref o), some (.int (nI (k + 1))), none, none] (by simp [tf_lss]) ?_
                exact ih (k + 1) (by omega) (by rw [← he, tf_fst_n (by rw [hq]; decide)])
            | succ i ihj =>
              intro j q hj hq
              refine tf_go hx ftX11_lostAt 5 [] 51 [some (.ref o), some (.int (nI k)), some (.int q), some (.int (nI j))] [.int (S (tf_rf G o 1) (Int32.toNatClampNeg 365)), .int (nI j)] S rfl ⟨by decide, by decide, rfl⟩ ⟨⟨trivial, ⟨by first | assumption | rfl | decide | omega, by first | assumption | rfl | decide | omega⟩⟩, ⟨Or.inl (by first | assumption | rfl | decide | omega), by first | assumption | exact tf_in (n := 365) (rfl : (365 : Int32) = nI 365) (by first | assumption | rfl) (by omega) (by decide)⟩⟩ ?_
              rw [show (S (tf_rf G o 1) (Int32.toNatClampNeg 365)) = nI (f 365) from (tf_rd hs (rfl : (365 : Int32) = nI 365) (by omega))]
              refine tf_go hx ftX11_lostAt 1 [false] 54 [some (.ref o), some (.int (nI k)), some (.int q), some (.int (nI j))] [] S rfl ⟨by decide, by decide, rfl⟩ ⟨trivial, (tf_leF (a := (f 365)) (b := j) rfl rfl (by have := hb 365; omega) (by have := hb 365; omega) (by have := hb 365; omega))⟩ ?_
              refine tf_go hx ftX11_lostAt 1 [] 55 [some (.ref o), some (.int (nI k)), some (.int q), some (.int (nI j))] [.int q] S rfl ⟨by decide, by decide, rfl⟩ trivial ?_
              rcases hq with ⟨rfl, hq⟩ | ⟨rfl, hq⟩
              · rw [tf_all_s] at hq
                refine tf_go hx ftX11_lostAt 1 [false] 58 [some (.ref o), some (.int (nI k)), some (.int 1), some (.int (nI j))] [] S rfl ⟨by decide, by decide, rfl⟩ ⟨trivial, (by decide)⟩ ?_
                refine tf_go hx ftX11_lostAt 11 [] 77 [some (.ref o), some (.int (nI k)), some (.int 1), some (.int (nI j))] [.int (nI k), .int (nI j), .int 144, .ref (tf_rf G o 1), .int (S (tf_rf G o 1) (Int32.toNatClampNeg (184 + (nI j))))] S rfl ⟨by decide, by decide, rfl⟩ ⟨⟨⟨trivial, ⟨by first | assumption | rfl | decide | omega, by first | assumption | rfl | decide | omega⟩⟩, ⟨Or.inl (by first | assumption | rfl | decide | omega), by first | assumption | exact tf_in (n := (184 + j)) (tf_add (rfl : (184 : Int32) = nI 184) rfl) (by first | assumption | rfl) (by omega) (by decide)⟩⟩, ⟨by first | assumption | rfl | decide | omega, by first | assumption | rfl | decide | omega⟩⟩ ?_
                rw [show (S (tf_rf G o 1) (Int32.toNatClampNeg (184 + (nI j)))) = nI (f (184 + j)) from (tf_rd hs (tf_add (rfl : (184 : Int32) = nI 184) rfl) (by omega))]
                by_cases d0 : j < k
                · refine tf_go hx ftX11_lostAt 1 [false] 80 [some (.ref o), some (.int (nI k)), some (.int 1), some (.int (nI j))] [.int 144, .ref (tf_rf G o 1), .int (nI (f (184 + j)))] S rfl ⟨by decide, by decide, rfl⟩ ⟨trivial, (tf_leF (a := k) (b := j) rfl rfl (by omega) (by omega) (by omega))⟩ ?_
                  refine tf_go hx ftX11_lostAt 4 [] 89 [some (.ref o), some (.int (nI k)), some (.int 1), some (.int (nI j))] [.int (S (tf_rf G o 1) (Int32.toNatClampNeg (144 + (nI j)))), .int (nI (f (184 + j)))] S rfl ⟨by decide, by decide, rfl⟩ ⟨trivial, ⟨Or.inl (by first | assumption | rfl | decide | omega), by first | assumption | exact tf_in (n := (144 + j)) (tf_add (rfl : (144 : Int32) = nI 144) rfl) (by first | assumption | rfl) (by omega) (by decide)⟩⟩ ?_
                  rw [show (S (tf_rf G o 1) (Int32.toNatClampNeg (144 + (nI j)))) = nI (f (144 + j)) from (tf_rd hs (tf_add (rfl : (144 : Int32) = nI 144) rfl) (by omega))]
                  by_cases d1 : f (184 + j) = f (144 + j)
                  · have lp : tf_lp f k j = true := by unfold tf_lp; rw [if_pos d0]; simpa using d1
                    refine tf_go hx ftX11_lostAt 6 [false] 42 [some (.ref o), some (.int (nI k)), some (.int 1), some (.int ((nI j) + 1))] [] S rfl ⟨by decide, by decide, rfl⟩ ⟨trivial, (tf_neF (a := (f (184 + j))) (b := (f (144 + j))) rfl rfl (by have := hb (184 + j); have := hb (144 + j); omega))⟩ ?_
                    rw [show ((nI j) + 1) = nI (j + 1) from (tf_add rfl (rfl : (1 : Int32) = nI 1))]
                    exact ihj (j + 1) 1 (by omega) (Or.inl ⟨rfl, by rw [← hq, lp, Bool.true_and]⟩)
                  · have lp : tf_lp f k j = false := by unfold tf_lp; rw [if_pos d0]; simpa using d1
                    refine tf_go hx ftX11_lostAt 5 [true] 42 [some (.ref o), some (.int (nI k)), some (.int 0), some (.int ((nI j) + 1))] [] S rfl ⟨by decide, by decide, rfl⟩ ⟨trivial, (tf_eqF (a := (f (184 + j))) (b := (f (144 + j))) rfl rfl (by have := hb (184 + j); have := hb (144 + j); omega) (by have := hb (184 + j); have := hb (144 + j); omega) (by have := hb (184 + j); have := hb (144 + j); omega))⟩ ?_
                    rw [show ((nI j) + 1) = nI (j + 1) from (tf_add rfl (rfl : (1 : Int32) = nI 1))]
                    exact ihj (j + 1) 0 (by omega) (Or.inr ⟨rfl, by rw [← hq, lp, Bool.false_and]⟩)
                · refine tf_go hx ftX11_lostAt 1 [true] 84 [some (.ref o), some (.int (nI k)), some (.int 1), some (.int (nI j))] [.int 144, .ref (tf_rf G o 1), .int (nI (f (184 + j)))] S rfl ⟨by decide, by decide, rfl⟩ ⟨trivial, (tf_leT (a := k) (b := j) rfl rfl (by omega) (by omega) (by omega))⟩ ?_
                  refine tf_go hx ftX11_lostAt 5 [] 89 [some (.ref o), some (.int (nI k)), some (.int 1), some (.int (nI j))] [.int (S (tf_rf G o 1) (Int32.toNatClampNeg (144 + ((nI j) + 1)))), .int (nI (f (184 + j)))] S rfl ⟨by decide, by decide, rfl⟩ ⟨trivial, ⟨Or.inl (by first | assumption | rfl | decide | omega), by first | assumption | exact tf_in (n := (144 + (j + 1))) (tf_add (rfl : (144 : Int32) = nI 144) (tf_add rfl (rfl : (1 : Int32) = nI 1))) (by first | assumption | rfl) (by omega) (by decide)⟩⟩ ?_
                  rw [show (S (tf_rf G o 1) (Int32.toNatClampNeg (144 + ((nI j) + 1)))) = nI (f (144 + (j + 1))) from (tf_rd hs (tf_add (rfl : (144 : Int32) = nI 144) (tf_add rfl (rfl : (1 : Int32) = nI 1))) (by omega))]
                  by_cases d1 : f (184 + j) = f (144 + (j + 1))
                  · have lp : tf_lp f k j = true := by unfold tf_lp; rw [if_neg d0]; simpa using d1
                    refine tf_go hx ftX11_lostAt 6 [false] 42 [some (.ref o), some (.int (nI k)), some (.int 1), some (.int ((nI j) + 1))] [] S rfl ⟨by decide, by decide, rfl⟩ ⟨trivial, (tf_neF (a := (f (184 + j))) (b := (f (144 + (j + 1)))) rfl rfl (by have := hb (184 + j); have := hb (144 + (j + 1)); omega))⟩ ?_
                    rw [show ((nI j) + 1) = nI (j + 1) from (tf_add rfl (rfl : (1 : Int32) = nI 1))]
                    exact ihj (j + 1) 1 (by omega) (Or.inl ⟨rfl, by rw [← hq, lp, Bool.true_and]⟩)
                  · have lp : tf_lp f k j = false := by unfold tf_lp; rw [if_neg d0]; simpa using d1
                    refine tf_go hx ftX11_lostAt 5 [true] 42 [some (.ref o), some (.int (nI k)), some (.int 0), some (.int ((nI j) + 1))] [] S rfl ⟨by decide, by decide, rfl⟩ ⟨trivial, (tf_eqF (a := (f (184 + j))) (b := (f (144 + (j + 1)))) rfl rfl (by have := hb (184 + j); have := hb (144 + (j + 1)); omega) (by have := hb (184 + j); have := hb (144 + (j + 1)); omega) (by have := hb (184 + j); have := hb (144 + (j + 1)); omega))⟩ ?_
                    rw [show ((nI j) + 1) = nI (j + 1) from (tf_add rfl (rfl : (1 : Int32) = nI 1))]
                    exact ihj (j + 1) 0 (by omega) (Or.inr ⟨rfl, by rw [← hq, lp, Bool.false_and]⟩)
              · refine tf_go hx ftX11_lostAt 5 [true] 42 [some (.ref o), some (.int (nI k)), some (.int 0), some (.int ((nI j) + 1))] [] S rfl ⟨by decide, by decide, rfl⟩ ⟨trivial, (by decide)⟩ ?_
                rw [show ((nI j) + 1) = nI (j + 1) from (tf_add rfl (rfl : (1 : Int32) = nI 1))]
                exact ihj (j + 1) 0 (by omega) (Or.inr ⟨rfl, hq⟩)
          exact inner (f 365) 0 1 (by omega) (Or.inl ⟨rfl, rfl⟩)
      exact loop (f 364) 0 (by omega) rfl
    · refine tf_go hx ftX11_lostAt 3 [false] 23 [some (.ref o), none, none, none] [.int (-9)] S rfl ⟨by decide, by decide, rfl⟩ ⟨trivial, (tf_eqF (a := (f 365)) (b := ((f 364) - 1)) rfl (tf_sub rfl (rfl : (1 : Int32) = nI 1) (by have := hb 364; omega)) (by have := hb 365; have := hb 364; omega) (by have := hb 365; have := hb 364; omega) (by have := hb 365; have := hb 364; omega))⟩ ?_
      exact tf_ret ftX11_lostAt hR rfl ⟨by decide, by decide⟩ rfl rfl (by rw [if_neg (by rintro ⟨h, -⟩; exact c1 h)]; rfl)
  · refine tf_go hx ftX11_lostAt 2 [] 17 [some (.ref o), none, none, none] [.int 1, .int (S (tf_rf G o 1) (Int32.toNatClampNeg 364)), .int (nI (f 365))] S rfl ⟨by decide, by decide, rfl⟩ ⟨trivial, ⟨Or.inl (by first | assumption | rfl | decide | omega), by first | assumption | exact tf_in (n := 364) (rfl : (364 : Int32) = nI 364) (by first | assumption | rfl) (by omega) (by decide)⟩⟩ ?_
    rw [show (S (tf_rf G o 1) (Int32.toNatClampNeg 364)) = nI (f 364) from (tf_rd hs (rfl : (364 : Int32) = nI 364) (by omega))]
    have z0 : f 364 = 0 := by omega
    refine tf_go hx ftX11_lostAt 3 [false] 23 [some (.ref o), none, none, none] [.int (-9)] S rfl ⟨by decide, by decide, rfl⟩ ⟨trivial, (by rw [z0]; intro h; have h2 : nI (f 365 + 1) = nI 0 := (by rw [← nI_1, h]; decide); have := (nI_eq (by have := hb 365; omega) (by omega)).mp h2; omega)⟩ ?_
    exact tf_ret ftX11_lostAt hR rfl ⟨by decide, by decide⟩ rfl rfl (by rw [if_neg (by rintro ⟨h, -⟩; omega)]; rfl)

set_option maxHeartbeats 1000000 in
theorem m_caughtAt {G : tf_G} {S : tf_Sg} {o : Nat} {f : Nat → Nat} (ho : tf_mo G o) (hf : tf_sf G S o f) (hg : tf_gd f) : tf_Fn mX11_caughtAt 1 0 0 G S [.ref o] G S (some (.int (tf_on 41 (tf_ca f)))) := by
  obtain ⟨h1, ⟨r0, t0, n0⟩, ⟨r1, t1, n1⟩, ⟨r2, t2, n2⟩, ⟨r4, t4, n4⟩⟩ := id ho
  obtain ⟨hs, hb⟩ := id hf
  obtain ⟨⟨g1, g2, g3, g4⟩, g5, g6, g7, g8, g9, g10, g11⟩ := id hg
  refine tf_Fn_of (own := RX11) false ⟨by decide, rfl, by decide⟩ (Nat.le_of_ble_eq_true rfl) trivial (fun x hx hR => ?_)
  show tf_K x 0 0 G S 0 [some (.ref o), none, none, none] []
  unfold tf_ca at hR
  refine tf_go hx ftX11_caughtAt 9 [] 17 [some (.ref o), none, none, none] [.int 2, .int (S (tf_rf G o 1) (Int32.toNatClampNeg 364)), .int (S (tf_rf G o 1) (Int32.toNatClampNeg 365))] S rfl ⟨by decide, by decide, rfl⟩ ⟨⟨⟨⟨trivial, ⟨by first | assumption | rfl | decide | omega, by first | assumption | rfl | decide | omega⟩⟩, ⟨Or.inl (by first | assumption | rfl | decide | omega), by first | assumption | exact tf_in (n := 365) (rfl : (365 : Int32) = nI 365) (by first | assumption | rfl) (by omega) (by decide)⟩⟩, ⟨by first | assumption | rfl | decide | omega, by first | assumption | rfl | decide | omega⟩⟩, ⟨Or.inl (by first | assumption | rfl | decide | omega), by first | assumption | exact tf_in (n := 364) (rfl : (364 : Int32) = nI 364) (by first | assumption | rfl) (by omega) (by decide)⟩⟩ ?_
  rw [show (S (tf_rf G o 1) (Int32.toNatClampNeg 364)) = nI (f 364) from (tf_rd hs (rfl : (364 : Int32) = nI 364) (by omega))]
  rw [show (S (tf_rf G o 1) (Int32.toNatClampNeg 365)) = nI (f 365) from (tf_rd hs (rfl : (365 : Int32) = nI 365) (by omega))]
  by_cases c1 : f 365 = f 364 + 2
  · refine tf_go hx ftX11_caughtAt 4 [true] 26 [some (.ref o), some (.int 0), none, none] [] S rfl ⟨by decide, by decide, rfl⟩ ⟨trivial, (tf_eqT (a := (f 365)) (b := ((f 364) + 2)) rfl (tf_add rfl (rfl : (2 : Int32) = nI 2)) (by have := hb 365; have := hb 364; omega))⟩ ?_
    have loop : ∀ (m k : Nat), k + m = (f 364) → (tf_fst (fun i => tf_ch f i && tf_all (tf_cp f i) (f 364) 0) m k = tf_fst (fun i => tf_ch f i && tf_all (tf_cp f i) (f 364) 0) (f 364) 0) → tf_K x 0 0 G S 26 [some (.ref o), some (.int (nI k)), none, none] [] := by
      intro m
      induction m with
      | zero =>
        intro k hk he
        rw [tf_fst_0] at he
        refine tf_go hx ftX11_caughtAt 5 [] 35 [some (.ref o), some (.int (nI k)), none, none] [.int (S (tf_rf G o 1) (Int32.toNatClampNeg 364)), .int (nI k)] S rfl ⟨by decide, by decide, rfl⟩ ⟨⟨trivial, ⟨by first | assumption | rfl | decide | omega, by first | assumption | rfl | decide | omega⟩⟩, ⟨Or.inl (by first | assumption | rfl | decide | omega), by first | assumption | exact tf_in (n := 364) (rfl : (364 : Int32) = nI 364) (by first | assumption | rfl) (by omega) (by decide)⟩⟩ ?_
        rw [show (S (tf_rf G o 1) (Int32.toNatClampNeg 364)) = nI (f 364) from (tf_rd hs (rfl : (364 : Int32) = nI 364) (by omega))]
        refine tf_go hx ftX11_caughtAt 2 [true] 177 [some (.ref o), some (.int (nI k)), none, none] [.int (-9)] S rfl ⟨by decide, by decide, rfl⟩ ⟨trivial, (tf_leT (a := (f 364)) (b := k) rfl rfl (by have := hb 364; omega) (by have := hb 364; omega) (by have := hb 364; omega))⟩ ?_
        exact tf_ret ftX11_caughtAt hR rfl ⟨by decide, by decide⟩ rfl rfl (by rw [if_neg (by rintro ⟨-, h⟩; omega)]; rfl)
      | succ m ih =>
        intro k hk he
        refine tf_go hx ftX11_caughtAt 5 [] 35 [some (.ref o), some (.int (nI k)), none, none] [.int (S (tf_rf G o 1) (Int32.toNatClampNeg 364)), .int (nI k)] S rfl ⟨by decide, by decide, rfl⟩ ⟨⟨trivial, ⟨by first | assumption | rfl | decide | omega, by first | assumption | rfl | decide | omega⟩⟩, ⟨Or.inl (by first | assumption | rfl | decide | omega), by first | assumption | exact tf_in (n := 364) (rfl : (364 : Int32) = nI 364) (by first | assumption | rfl) (by omega) (by decide)⟩⟩ ?_
        rw [show (S (tf_rf G o 1) (Int32.toNatClampNeg 364)) = nI (f 364) from (tf_rd hs (rfl : (364 : Int32) = nI 364) (by omega))]
        refine tf_go hx ftX11_caughtAt 1 [false] 38 [some (.ref o), some (.int (nI k)), none, none] [] S rfl ⟨by decide, by decide, rfl⟩ ⟨trivial, (tf_leF (a := (f 364)) (b := k) rfl rfl (by have := hb 364; omega) (by have := hb 364; omega) (by have := hb 364; omega))⟩ ?_
        have inner : ∀ (i j : Nat) (q : Int32), j + i = f 364 → (q = 1 ∧ (tf_all (tf_cp f k) i j) = (tf_ch f k && tf_all (tf_cp f k) (f 364) 0)) ∨ (q = 0 ∧ (tf_ch f k && tf_all (tf_cp f k) (f 364) 0) = false) → tf_K x 0 0 G S 101 [some (.ref o), some (.int (nI k)), some (.int q), some (.int (nI j))] [] := by
          intro i
          induction i with
          | zero =>
            intro j q hj hq
            refine tf_go hx ftX11_caughtAt 5 [] 110 [some (.ref o), some (.int (nI k)), some (.int q), some (.int (nI j))] [.int (S (tf_rf G o 1) (Int32.toNatClampNeg 364)), .int (nI j)] S rfl ⟨by decide, by decide, rfl⟩ ⟨⟨trivial, ⟨by first | assumption | rfl | decide | omega, by first | assumption | rfl | decide | omega⟩⟩, ⟨Or.inl (by first | assumption | rfl | decide | omega), by first | assumption | exact tf_in (n := 364) (rfl : (364 : Int32) = nI 364) (by first | assumption | rfl) (by omega) (by decide)⟩⟩ ?_
            rw [show (S (tf_rf G o 1) (Int32.toNatClampNeg 364)) = nI (f 364) from (tf_rd hs (rfl : (364 : Int32) = nI 364) (by omega))]
            refine tf_go hx ftX11_caughtAt 1 [true] 163 [some (.ref o), some (.int (nI k)), some (.int q), some (.int (nI j))] [] S rfl ⟨by decide, by decide, rfl⟩ ⟨trivial, (tf_leT (a := (f 364)) (b := j) rfl rfl (by have := hb 364; omega) (by have := hb 364; omega) (by have := hb 364; omega))⟩ ?_
            refine tf_go hx ftX11_caughtAt 1 [] 164 [some (.ref o), some (.int (nI k)), some (.int q), some (.int (nI j))] [.int q] S rfl ⟨by decide, by decide, rfl⟩ trivial ?_
            rcases hq with ⟨rfl, hq⟩ | ⟨rfl, hq⟩
            · rw [tf_all_0] at hq
              refine tf_go hx ftX11_caughtAt 2 [false] 168 [some (.ref o), some (.int (nI k)), some (.int 1), some (.int (nI j))] [.int (nI k)] S rfl ⟨by decide, by decide, rfl⟩ ⟨trivial, (by decide)⟩ ?_
              exact tf_ret ftX11_caughtAt hR rfl ⟨by decide, by decide⟩ rfl rfl (by rw [tf_fst_y hq.symm] at he; rw [if_pos ⟨c1, by omega⟩, ← he, tf_on_y (by omega)]; rfl)
            · refine tf_go hx ftX11_caughtAt 3 [true] 26 [some (.ref o), some (.int ((nI k) + 1)), some (.int 0), some (.int (nI j))] [] S rfl ⟨by decide, by decide, rfl⟩ ⟨trivial, (by decide)⟩ ?_
              rw [show ((nI k) + 1) = nI (k + 1) from (tf_add rfl (rfl : (1 : Int32) = nI 1))]
              refine tf_fgt [some (.ref o), some (.int (nI (k + 1))), none, none] (by simp [tf_lss]) ?_
              exact ih (k + 1) (by omega) (by rw [← he, tf_fst_n (by rw [hq]; decide)])
          | succ i ihj =>
            intro j q hj hq
            refine tf_go hx ftX11_caughtAt 5 [] 110 [some (.ref o), some (.int (nI k)), some (.int q), some (.int (nI j))] [.int (S (tf_rf G o 1) (Int32.toNatClampNeg 364)), .int (nI j)] S rfl ⟨by decide, by decide, rfl⟩ ⟨⟨trivial, ⟨by first | assumption | rfl | decide | omega, by first | assumption | rfl | decide | omega⟩⟩, ⟨Or.inl (by first | assumption | rfl | decide | omega), by first | assumption | exact tf_in (n := 364) (rfl : (364 : Int32) = nI 364) (by first | assumption | rfl) (by omega) (by decide)⟩⟩ ?_
            rw [show (S (tf_rf G o 1) (Int32.toNatClampNeg 364)) = nI (f 364) from (tf_rd hs (rfl : (364 : Int32) = nI 364) (by omega))]
            refine tf_go hx ftX11_caughtAt 1 [false] 113 [some (.ref o), some (.int (nI k)), some (.int q), some (.int (nI j))] [] S rfl ⟨by decide, by decide, rfl⟩ ⟨trivial, (tf_leF (a := (f 364)) (b := j) rfl rfl (by have := hb 364; omega) (by have := hb 364; omega) (by have := hb 364; omega))⟩ ?_
            refine tf_go hx ftX11_caughtAt 1 [] 114 [some (.ref o), some (.int (nI k)), some (.int q), some (.int (nI j))] [.int q] S rfl ⟨by decide, by decide, rfl⟩ trivial ?_
            rcases hq with ⟨rfl, hq⟩ | ⟨rfl, hq⟩
            · rw [tf_all_s] at hq
              refine tf_go hx ftX11_caughtAt 1 [false] 117 [some (.ref o), some (.int (nI k)), some (.int 1), some (.int (nI j))] [] S rfl ⟨by decide, by decide, rfl⟩ ⟨trivial, (by decide)⟩ ?_
              refine tf_go hx ftX11_caughtAt 5 [] 126 [some (.ref o), some (.int (nI k)), some (.int 1), some (.int (nI j))] [.int (nI k), .int (nI j), .int 184, .ref (tf_rf G o 1)] S rfl ⟨by decide, by decide, rfl⟩ ⟨trivial, ⟨by first | assumption | rfl | decide | omega, by first | assumption | rfl | decide | omega⟩⟩ ?_
              by_cases d0 : j < k
              · refine tf_go hx ftX11_caughtAt 1 [false] 129 [some (.ref o), some (.int (nI k)), some (.int 1), some (.int (nI j))] [.int 184, .ref (tf_rf G o 1)] S rfl ⟨by decide, by decide, rfl⟩ ⟨trivial, (tf_leF (a := k) (b := j) rfl rfl (by omega) (by omega) (by omega))⟩ ?_
                refine tf_go hx ftX11_caughtAt 10 [] 148 [some (.ref o), some (.int (nI k)), some (.int 1), some (.int (nI j))] [.int (S (tf_rf G o 1) (Int32.toNatClampNeg (144 + (nI j)))), .int (S (tf_rf G o 1) (Int32.toNatClampNeg (184 + (nI j))))] S rfl ⟨by decide, by decide, rfl⟩ ⟨⟨⟨trivial, ⟨Or.inl (by first | assumption | rfl | decide | omega), by first | assumption | exact tf_in (n := (184 + j)) (tf_add (rfl : (184 : Int32) = nI 184) rfl) (by first | assumption | rfl) (by omega) (by decide)⟩⟩, ⟨by first | assumption | rfl | decide | omega, by first | assumption | rfl | decide | omega⟩⟩, ⟨Or.inl (by first | assumption | rfl | decide | omega), by first | assumption | exact tf_in (n := (144 + j)) (tf_add (rfl : (144 : Int32) = nI 144) rfl) (by first | assumption | rfl) (by omega) (by decide)⟩⟩ ?_
                rw [show (S (tf_rf G o 1) (Int32.toNatClampNeg (144 + (nI j)))) = nI (f (144 + j)) from (tf_rd hs (tf_add (rfl : (144 : Int32) = nI 144) rfl) (by omega))]
                rw [show (S (tf_rf G o 1) (Int32.toNatClampNeg (184 + (nI j)))) = nI (f (184 + j)) from (tf_rd hs (tf_add (rfl : (184 : Int32) = nI 184) rfl) (by omega))]
                by_cases d1 : f (184 + j) = f (144 + j)
                · have lp : tf_cp f k j = true := by unfold tf_cp; rw [if_pos d0]; simpa using d1
                  refine tf_go hx ftX11_caughtAt 6 [false] 101 [some (.ref o), some (.int (nI k)), some (.int 1), some (.int ((nI j) + 1))] [] S rfl ⟨by decide, by decide, rfl⟩ ⟨trivial, (tf_neF (a := (f (184 + j))) (b := (f (144 + j))) rfl rfl (by have := hb (184 + j); have := hb (144 + j); omega))⟩ ?_
                  rw [show ((nI j) + 1) = nI (j + 1) from (tf_add rfl (rfl : (1 : Int32) = nI 1))]
                  exact ihj (j + 1) 1 (by omega) (Or.inl ⟨rfl, by rw [← hq, lp, Bool.true_and]⟩)
                · have lp : tf_cp f k j = false := by unfold tf_cp; rw [if_pos d0]; simpa using d1
                  refine tf_go hx ftX11_caughtAt 5 [true] 101 [some (.ref o), some (.int (nI k)), some (.int 0), some (.int ((nI j) + 1))] [] S rfl ⟨by decide, by decide, rfl⟩ ⟨trivial, (tf_eqF (a := (f (184 + j))) (b := (f (144 + j))) rfl rfl (by have := hb (184 + j); have := hb (144 + j); omega) (by have := hb (184 + j); have := hb (144 + j); omega) (by have := hb (184 + j); have := hb (144 + j); omega))⟩ ?_
                  rw [show ((nI j) + 1) = nI (j + 1) from (tf_add rfl (rfl : (1 : Int32) = nI 1))]
                  exact ihj (j + 1) 0 (by omega) (Or.inr ⟨rfl, by rw [← hq, lp, Bool.false_and]⟩)
              · refine tf_go hx ftX11_caughtAt 1 [true] 133 [some (.ref o), some (.int (nI k)), some (.int 1), some (.int (nI j))] [.int 184, .ref (tf_rf G o 1)] S rfl ⟨by decide, by decide, rfl⟩ ⟨trivial, (tf_leT (a := k) (b := j) rfl rfl (by omega) (by omega) (by omega))⟩ ?_
                refine tf_go hx ftX11_caughtAt 11 [] 148 [some (.ref o), some (.int (nI k)), some (.int 1), some (.int (nI j))] [.int (S (tf_rf G o 1) (Int32.toNatClampNeg (144 + (nI j)))), .int (S (tf_rf G o 1) (Int32.toNatClampNeg (184 + ((nI j) + 2))))] S rfl ⟨by decide, by decide, rfl⟩ ⟨⟨⟨trivial, ⟨Or.inl (by first | assumption | rfl | decide | omega), by first | assumption | exact tf_in (n := (184 + (j + 2))) (tf_add (rfl : (184 : Int32) = nI 184) (tf_add rfl (rfl : (2 : Int32) = nI 2))) (by first | assumption | rfl) (by omega) (by decide)⟩⟩, ⟨by first | assumption | rfl | decide | omega, by first | assumption | rfl | decide | omega⟩⟩, ⟨Or.inl (by first | assumption | rfl | decide | omega), by first | assumption | exact tf_in (n := (144 + j)) (tf_add (rfl : (144 : Int32) = nI 144) rfl) (by first | assumption | rfl) (by omega) (by decide)⟩⟩ ?_
                rw [show (S (tf_rf G o 1) (Int32.toNatClampNeg (144 + (nI j)))) = nI (f (144 + j)) from (tf_rd hs (tf_add (rfl : (144 : Int32) = nI 144) rfl) (by omega))]
                rw [show (S (tf_rf G o 1) (Int32.toNatClampNeg (184 + ((nI j) + 2)))) = nI (f (184 + (j + 2))) from (tf_rd hs (tf_add (rfl : (184 : Int32) = nI 184) (tf_add rfl (rfl : (2 : Int32) = nI 2))) (by omega))]
                by_cases d1 : f (184 + (j + 2)) = f (144 + j)
                · have lp : tf_cp f k j = true := by unfold tf_cp; rw [if_neg d0]; simpa using d1
                  refine tf_go hx ftX11_caughtAt 6 [false] 101 [some (.ref o), some (.int (nI k)), some (.int 1), some (.int ((nI j) + 1))] [] S rfl ⟨by decide, by decide, rfl⟩ ⟨trivial, (tf_neF (a := (f (184 + (j + 2)))) (b := (f (144 + j))) rfl rfl (by have := hb (184 + (j + 2)); have := hb (144 + j); omega))⟩ ?_
                  rw [show ((nI j) + 1) = nI (j + 1) from (tf_add rfl (rfl : (1 : Int32) = nI 1))]
                  exact ihj (j + 1) 1 (by omega) (Or.inl ⟨rfl, by rw [← hq, lp, Bool.true_and]⟩)
                · have lp : tf_cp f k j = false := by unfold tf_cp; rw [if_neg d0]; simpa using d1
                  refine tf_go hx ftX11_caughtAt 5 [true] 101 [some (.ref o), some (.int (nI k)), some (.int 0), some (.int ((nI j) + 1))] [] S rfl ⟨by decide, by decide, rfl⟩ ⟨trivial, (tf_eqF (a := (f (184 + (j + 2)))) (b := (f (144 + j))) rfl rfl (by have := hb (184 + (j + 2)); have := hb (144 + j); omega) (by have := hb (184 + (j + 2)); have := hb (144 + j); omega) (by have := hb (184 + (j + 2)); have := hb (144 + j); omega))⟩ ?_
                  rw [show ((nI j) + 1) = nI (j + 1) from (tf_add rfl (rfl : (1 : Int32) = nI 1))]
                  exact ihj (j + 1) 0 (by omega) (Or.inr ⟨rfl, by rw [← hq, lp, Bool.false_and]⟩)
            · refine tf_go hx ftX11_caughtAt 5 [true] 101 [some (.ref o), some (.int (nI k)), some (.int 0), some (.int ((nI j) + 1))] [] S rfl ⟨by decide, by decide, rfl⟩ ⟨trivial, (by decide)⟩ ?_
              rw [show ((nI j) + 1) = nI (j + 1) from (tf_add rfl (rfl : (1 : Int32) = nI 1))]
              exact ihj (j + 1) 0 (by omega) (Or.inr ⟨rfl, hq⟩)
        refine tf_go hx ftX11_caughtAt 7 [] 50 [some (.ref o), some (.int (nI k)), none, none] [.int 26, .int (S (tf_rf G o 1) (Int32.toNatClampNeg (184 + (nI k))))] S rfl ⟨by decide, by decide, rfl⟩ ⟨⟨trivial, ⟨by first | assumption | rfl | decide | omega, by first | assumption | rfl | decide | omega⟩⟩, ⟨Or.inl (by first | assumption | rfl | decide | omega), by first | assumption | exact tf_in (n := (184 + k)) (tf_add (rfl : (184 : Int32) = nI 184) rfl) (by first | assumption | rfl) (by omega) (by decide)⟩⟩ ?_
        rw [show (S (tf_rf G o 1) (Int32.toNatClampNeg (184 + (nI k)))) = nI (f (184 + k)) from (tf_rd hs (tf_add (rfl : (184 : Int32) = nI 184) rfl) (by omega))]
        by_cases e1 : f (184 + k) = 26
        · refine tf_go hx ftX11_caughtAt 5 [true] 101 [some (.ref o), some (.int (nI k)), some (.int 0), some (.int 0)] [] S rfl ⟨by decide, by decide, rfl⟩ ⟨trivial, (tf_eqT (a := (f (184 + k))) (b := 26) rfl (rfl : (26 : Int32) = nI 26) (by have := hb (184 + k); omega))⟩ ?_
          exact inner (f 364) 0 0 (by omega) (Or.inr ⟨rfl, by rw [show tf_ch f k = false by unfold tf_ch; simp [e1], Bool.false_and]⟩)
        · refine tf_go hx ftX11_caughtAt 1 [false] 53 [some (.ref o), some (.int (nI k)), none, none] [] S rfl ⟨by decide, by decide, rfl⟩ ⟨trivial, (tf_eqF (a := (f (184 + k))) (b := 26) rfl (rfl : (26 : Int32) = nI 26) (by have := hb (184 + k); omega) (by have := hb (184 + k); omega) (by have := hb (184 + k); omega))⟩ ?_
          refine tf_go hx ftX11_caughtAt 12 [] 73 [some (.ref o), some (.int (nI k)), none, none] [.int (S (tf_rf G o 1) (Int32.toNatClampNeg (144 + (nI k)))), .int (S (tf_rf G o 1) (Int32.toNatClampNeg (184 + (nI k))))] S rfl ⟨by decide, by decide, rfl⟩ ⟨⟨⟨⟨trivial, ⟨by first | assumption | rfl | decide | omega, by first | assumption | rfl | decide | omega⟩⟩, ⟨Or.inl (by first | assumption | rfl | decide | omega), by first | assumption | exact tf_in (n := (184 + k)) (tf_add (rfl : (184 : Int32) = nI 184) rfl) (by first | assumption | rfl) (by omega) (by decide)⟩⟩, ⟨by first | assumption | rfl | decide | omega, by first | assumption | rfl | decide | omega⟩⟩, ⟨Or.inl (by first | assumption | rfl | decide | omega), by first | assumption | exact tf_in (n := (144 + k)) (tf_add (rfl : (144 : Int32) = nI 144) rfl) (by first | assumption | rfl) (by omega) (by decide)⟩⟩ ?_
          rw [show (S (tf_rf G o 1) (Int32.toNatClampNeg (144 + (nI k)))) = nI (f (144 + k)) from (tf_rd hs (tf_add (rfl : (144 : Int32) = nI 144) rfl) (by omega))]
          rw [show (S (tf_rf G o 1) (Int32.toNatClampNeg (184 + (nI k)))) = nI (f (184 + k)) from (tf_rd hs (tf_add (rfl : (184 : Int32) = nI 184) rfl) (by omega))]
          by_cases e2 : f (184 + k) = f (144 + k)
          · refine tf_go hx ftX11_caughtAt 5 [true] 101 [some (.ref o), some (.int (nI k)), some (.int 0), some (.int 0)] [] S rfl ⟨by decide, by decide, rfl⟩ ⟨trivial, (tf_eqT (a := (f (184 + k))) (b := (f (144 + k))) rfl rfl (by have := hb (184 + k); have := hb (144 + k); omega))⟩ ?_
            exact inner (f 364) 0 0 (by omega) (Or.inr ⟨rfl, by rw [show tf_ch f k = false by unfold tf_ch; simp [e2], Bool.false_and]⟩)
          · refine tf_go hx ftX11_caughtAt 1 [false] 76 [some (.ref o), some (.int (nI k)), none, none] [] S rfl ⟨by decide, by decide, rfl⟩ ⟨trivial, (tf_eqF (a := (f (184 + k))) (b := (f (144 + k))) rfl rfl (by have := hb (184 + k); have := hb (144 + k); omega) (by have := hb (184 + k); have := hb (144 + k); omega) (by have := hb (184 + k); have := hb (144 + k); omega))⟩ ?_
            refine tf_go hx ftX11_caughtAt 9 [] 90 [some (.ref o), some (.int (nI k)), none, none] [.int 26, .int (S (tf_rf G o 1) (Int32.toNatClampNeg ((184 + (nI k)) + 1)))] S rfl ⟨by decide, by decide, rfl⟩ ⟨⟨trivial, ⟨by first | assumption | rfl | decide | omega, by first | assumption | rfl | decide | omega⟩⟩, ⟨Or.inl (by first | assumption | rfl | decide | omega), by first | assumption | exact tf_in (n := ((184 + k) + 1)) (tf_add (tf_add (rfl : (184 : Int32) = nI 184) rfl) (rfl : (1 : Int32) = nI 1)) (by first | assumption | rfl) (by omega) (by decide)⟩⟩ ?_
            rw [show (S (tf_rf G o 1) (Int32.toNatClampNeg ((184 + (nI k)) + 1))) = nI (f ((184 + k) + 1)) from (tf_rd hs (tf_add (tf_add (rfl : (184 : Int32) = nI 184) rfl) (rfl : (1 : Int32) = nI 1)) (by omega))]
            by_cases e3 : f (184 + k + 1) = 26
            · refine tf_go hx ftX11_caughtAt 6 [false] 101 [some (.ref o), some (.int (nI k)), some (.int 1), some (.int 0)] [] S rfl ⟨by decide, by decide, rfl⟩ ⟨trivial, (tf_neF (a := (f ((184 + k) + 1))) (b := 26) rfl (rfl : (26 : Int32) = nI 26) (by have := hb ((184 + k) + 1); omega))⟩ ?_
              exact inner (f 364) 0 1 (by omega) (Or.inl ⟨rfl, by rw [show tf_ch f k = true by unfold tf_ch; simp [e1, e2, e3], Bool.true_and]⟩)
            · refine tf_go hx ftX11_caughtAt 5 [true] 101 [some (.ref o), some (.int (nI k)), some (.int 0), some (.int 0)] [] S rfl ⟨by decide, by decide, rfl⟩ ⟨trivial, (tf_eqF (a := (f ((184 + k) + 1))) (b := 26) rfl (rfl : (26 : Int32) = nI 26) (by have := hb ((184 + k) + 1); omega) (by have := hb ((184 + k) + 1); omega) (by have := hb ((184 + k) + 1); omega))⟩ ?_
              exact inner (f 364) 0 0 (by omega) (Or.inr ⟨rfl, by rw [show tf_ch f k = false by unfold tf_ch; simp [e3], Bool.false_and]⟩)
    exact loop (f 364) 0 (by omega) rfl
  · refine tf_go hx ftX11_caughtAt 3 [false] 23 [some (.ref o), none, none, none] [.int (-9)] S rfl ⟨by decide, by decide, rfl⟩ ⟨trivial, (tf_eqF (a := (f 365)) (b := ((f 364) + 2)) rfl (tf_add rfl (rfl : (2 : Int32) = nI 2)) (by have := hb 365; have := hb 364; omega) (by have := hb 365; have := hb 364; omega) (by have := hb 365; have := hb 364; omega))⟩ ?_
    exact tf_ret ftX11_caughtAt hR rfl ⟨by decide, by decide⟩ rfl rfl (by rw [if_neg (by rintro ⟨h, -⟩; exact c1 h)]; rfl)

set_option maxHeartbeats 1000000 in
theorem m_whereOf {G : tf_G} {S : tf_Sg} {o : Nat} {f : Nat → Nat} (b k : Nat) (ho : tf_mo G o) (hf : tf_sf G S o f) (hg : tf_gd f) (hbb : b < 4) (hk : k < 8) : tf_Fn mX11_whereOf 3 0 0 G S [.ref o, .int (nI b), .int (nI k)] G S (some (.int (tf_on 41 (tf_wo f b k)))) := by
  obtain ⟨h1, ⟨r0, t0, n0⟩, ⟨r1, t1, n1⟩, ⟨r2, t2, n2⟩, ⟨r4, t4, n4⟩⟩ := id ho
  obtain ⟨hs, hb⟩ := id hf
  obtain ⟨⟨g1, g2, g3, g4⟩, g5, g6, g7, g8, g9, g10, g11⟩ := id hg
  refine tf_Fn_of (own := RX11) false ⟨by decide, rfl, by decide⟩ (Nat.le_of_ble_eq_true rfl) trivial (fun x hx hR => ?_)
  show tf_K x 0 0 G S 0 [some (.ref o), some (.int (nI b)), some (.int (nI k))] []
  unfold tf_wo at hR
  refine tf_go hx ftX11_whereOf 1 [] 1 [some (.ref o), some (.int (nI b)), some (.int (nI k))] [.int (nI k)] S rfl ⟨by decide, by decide, rfl⟩ trivial ?_
  by_cases c0 : k = 0
  · subst c0
    refine tf_swI hx ftX11_whereOf 44 rfl ⟨by decide, by decide, rfl, by decide⟩ ?_
    refine tf_go hx ftX11_whereOf 1 [] 45 [some (.ref o), some (.int (nI b)), some (.int (nI 0))] [.ref o] S rfl ⟨by decide, by decide, rfl⟩ trivial ?_
    refine tf_cV hx ftX11_whereOf (nx := 48) (As := []) (rest := []) (st2 := [.int (tf_on 41 (tf_sl f))]) (m_slipAt ho hf hg) rfl lX11_95 (by first | assumption | rfl | decide) rfl ⟨rfl, by decide, by decide, by decide, rfl, rfl⟩ ?_
    exact tf_ret ftX11_whereOf hR rfl ⟨by decide, by decide⟩ rfl rfl rfl
  · by_cases c1 : k = 1
    · subst c1
      refine tf_swI hx ftX11_whereOf 49 rfl ⟨by decide, by decide, rfl, by decide⟩ ?_
      refine tf_go hx ftX11_whereOf 1 [] 50 [some (.ref o), some (.int (nI b)), some (.int (nI 1))] [.ref o] S rfl ⟨by decide, by decide, rfl⟩ trivial ?_
      refine tf_cV hx ftX11_whereOf (nx := 53) (As := []) (rest := []) (st2 := [.int (tf_on 41 (tf_sw f))]) (m_swapAt ho hf hg) rfl lX11_98 (by first | assumption | rfl | decide) rfl ⟨rfl, by decide, by decide, by decide, rfl, rfl⟩ ?_
      exact tf_ret ftX11_whereOf hR rfl ⟨by decide, by decide⟩ rfl rfl rfl
    · by_cases c2 : k = 2
      · subst c2
        refine tf_swI hx ftX11_whereOf 54 rfl ⟨by decide, by decide, rfl, by decide⟩ ?_
        refine tf_go hx ftX11_whereOf 1 [] 55 [some (.ref o), some (.int (nI b)), some (.int (nI 2))] [.ref o] S rfl ⟨by decide, by decide, rfl⟩ trivial ?_
        refine tf_cV hx ftX11_whereOf (nx := 58) (As := []) (rest := []) (st2 := [.int (tf_on 41 (tf_do f))]) (m_doubleAt ho hf hg) rfl lX11_101 (by first | assumption | rfl | decide) rfl ⟨rfl, by decide, by decide, by decide, rfl, rfl⟩ ?_
        exact tf_ret ftX11_whereOf hR rfl ⟨by decide, by decide⟩ rfl rfl rfl
      · by_cases c3 : k = 3
        · subst c3
          refine tf_swI hx ftX11_whereOf 59 rfl ⟨by decide, by decide, rfl, by decide⟩ ?_
          refine tf_go hx ftX11_whereOf 3 [] 62 [some (.ref o), some (.int (nI b)), some (.int (nI 3))] [.int 1, .int (nI b), .ref o] S rfl ⟨by decide, by decide, rfl⟩ trivial ?_
          refine tf_cV hx ftX11_whereOf (nx := 65) (As := [.int (nI b), .int 1]) (rest := []) (st2 := [.int (tf_on 41 (tf_bk f b 1))]) (m_byKeys b 1 ho hf hg hbb (by decide)) rfl lX11_104 (by first | assumption | rfl | decide) rfl ⟨rfl, by decide, by decide, by decide, rfl, rfl⟩ ?_
          exact tf_ret ftX11_whereOf hR rfl ⟨by decide, by decide⟩ rfl rfl rfl
        · by_cases c4 : k = 4
          · subst c4
            refine tf_swI hx ftX11_whereOf 66 rfl ⟨by decide, by decide, rfl, by decide⟩ ?_
            refine tf_go hx ftX11_whereOf 3 [] 69 [some (.ref o), some (.int (nI b)), some (.int (nI 4))] [.int 0, .int (nI b), .ref o] S rfl ⟨by decide, by decide, rfl⟩ trivial ?_
            refine tf_cV hx ftX11_whereOf (nx := 72) (As := [.int (nI b), .int 0]) (rest := []) (st2 := [.int (tf_on 41 (tf_bk f b 0))]) (m_byKeys b 0 ho hf hg hbb (by decide)) rfl lX11_104 (by first | assumption | rfl | decide) rfl ⟨rfl, by decide, by decide, by decide, rfl, rfl⟩ ?_
            exact tf_ret ftX11_whereOf hR rfl ⟨by decide, by decide⟩ rfl rfl rfl
          · by_cases c5 : k = 5
            · subst c5
              refine tf_swI hx ftX11_whereOf 73 rfl ⟨by decide, by decide, rfl, by decide⟩ ?_
              refine tf_go hx ftX11_whereOf 1 [] 74 [some (.ref o), some (.int (nI b)), some (.int (nI 5))] [.ref o] S rfl ⟨by decide, by decide, rfl⟩ trivial ?_
              refine tf_cV hx ftX11_whereOf (nx := 77) (As := []) (rest := []) (st2 := [.int (tf_on 41 (tf_ea f))]) (m_earlyAt ho hf hg) rfl lX11_107 (by first | assumption | rfl | decide) rfl ⟨rfl, by decide, by decide, by decide, rfl, rfl⟩ ?_
              exact tf_ret ftX11_whereOf hR rfl ⟨by decide, by decide⟩ rfl rfl rfl
            · by_cases c6 : k = 6
              · subst c6
                refine tf_swI hx ftX11_whereOf 78 rfl ⟨by decide, by decide, rfl, by decide⟩ ?_
                refine tf_go hx ftX11_whereOf 1 [] 79 [some (.ref o), some (.int (nI b)), some (.int (nI 6))] [.ref o] S rfl ⟨by decide, by decide, rfl⟩ trivial ?_
                refine tf_cV hx ftX11_whereOf (nx := 82) (As := []) (rest := []) (st2 := [.int (tf_on 41 (tf_lo f))]) (m_lostAt ho hf hg) rfl lX11_110 (by first | assumption | rfl | decide) rfl ⟨rfl, by decide, by decide, by decide, rfl, rfl⟩ ?_
                exact tf_ret ftX11_whereOf hR rfl ⟨by decide, by decide⟩ rfl rfl rfl
              · have c7 : k = 7 := by omega
                subst c7
                refine tf_swO hx ftX11_whereOf 83 rfl ⟨Or.inr (by decide), by decide⟩ ?_
                refine tf_go hx ftX11_whereOf 1 [] 84 [some (.ref o), some (.int (nI b)), some (.int (nI 7))] [.ref o] S rfl ⟨by decide, by decide, rfl⟩ trivial ?_
                refine tf_cV hx ftX11_whereOf (nx := 87) (As := []) (rest := []) (st2 := [.int (tf_on 41 (tf_ca f))]) (m_caughtAt ho hf hg) rfl lX11_113 (by first | assumption | rfl | decide) rfl ⟨rfl, by decide, by decide, by decide, rfl, rfl⟩ ?_
                exact tf_ret ftX11_whereOf hR rfl ⟨by decide, by decide⟩ rfl rfl rfl

