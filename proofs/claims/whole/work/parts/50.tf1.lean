set_option maxRecDepth 100000 in
theorem lX10_21 : tf_okI RX10 21 1 mX5_init := by unfold tf_okI tf_okL; decide +kernel

set_option maxRecDepth 100000 in
theorem lX10_54 : tf_okV RX10 54 0 3 mX5_size := by unfold tf_okV tf_okL; decide +kernel

set_option maxRecDepth 100000 in
theorem lX10_58 : tf_okV RX10 58 1 3 mX5_add := by unfold tf_okV tf_okL; decide +kernel

set_option maxRecDepth 100000 in
theorem lX10_61 : tf_okS RX10 61 1 mX10_noBoard := by unfold tf_okS tf_okL; decide +kernel

set_option maxRecDepth 100000 in
theorem lX10_65 : tf_okS RX10 65 1 mX4_boardFault := by unfold tf_okS tf_okL; decide +kernel

set_option maxRecDepth 100000 in
theorem lX10_75 : tf_okV RX10 75 1 0 mX0_readFrom := by unfold tf_okV tf_okL; decide +kernel

set_option maxRecDepth 100000 in
theorem lX10_80 : tf_okV RX10 80 0 3 mX5_clear := by unfold tf_okV tf_okL; decide +kernel

set_option maxRecDepth 100000 in
theorem lX10_83 : tf_okS RX10 83 2 mX4_textFault := by unfold tf_okS tf_okL; decide +kernel

set_option maxRecDepth 100000 in
theorem lX10_93 : tf_okS RX10 93 2 mX4_signsInto := by unfold tf_okS tf_okL; decide +kernel

set_option maxRecDepth 100000 in
theorem lX10_101 : tf_okV RX10 101 0 6 mX9_size := by unfold tf_okV tf_okL; decide +kernel

set_option maxRecDepth 100000 in
theorem lX10_104 : tf_okV RX10 104 1 6 mX9_addFrom := by unfold tf_okV tf_okL; decide +kernel

set_option maxRecDepth 100000 in
theorem lX10_107 : tf_okV RX10 107 1 0 mX0_keyAt := by unfold tf_okV tf_okL; decide +kernel

set_option maxRecDepth 100000 in
theorem lX10_110 : tf_okS RX10 110 1 mX10_noKey := by unfold tf_okS tf_okL; decide +kernel

set_option maxRecDepth 100000 in
theorem lX10_113 : tf_okV RX10 113 1 0 mX0_letterAt := by unfold tf_okV tf_okL; decide +kernel

set_option maxRecDepth 100000 in
theorem lX10_116 : tf_okS RX10 116 2 mX2_fingerBy := by unfold tf_okS tf_okL; decide +kernel

set_option maxRecDepth 100000 in
theorem lX10_122 : tf_okS RX10 122 1 mX10_noHand := by unfold tf_okS tf_okL; decide +kernel

set_option maxRecDepth 100000 in
theorem lX10_129 : tf_okV RX10 129 2 1 mX1_changeLaw := by unfold tf_okV tf_okL; decide +kernel

set_option maxRecDepth 100000 in
theorem lX10_135 : tf_okV RX10 135 3 1 mX1_gapTo := by unfold tf_okV tf_okL; decide +kernel

set_option maxRecDepth 100000 in
theorem lX10_139 : tf_okV RX10 139 1 3 mX5_at := by unfold tf_okV tf_okL; decide +kernel

set_option maxRecDepth 100000 in
theorem lX10_142 : tf_okV RX10 142 2 6 mX9_useMore := by unfold tf_okV tf_okL; decide +kernel

set_option maxRecDepth 100000 in
theorem lX10_145 : tf_okV RX10 145 2 2 mX3_cutFrom := by unfold tf_okV tf_okL; decide +kernel

set_option maxRecDepth 100000 in
theorem lX10_149 : tf_okV RX10 149 1 2 mX3_beginAt := by unfold tf_okV tf_okL; decide +kernel

set_option maxRecDepth 100000 in
theorem lX10_152 : tf_okV RX10 152 1 2 mX3_lengthAt := by unfold tf_okV tf_okL; decide +kernel

set_option maxRecDepth 100000 in
theorem lX10_155 : tf_okV RX10 155 1 2 mX3_wordAt := by unfold tf_okV tf_okL; decide +kernel

set_option maxRecDepth 100000 in
theorem lX10_158 : tf_okV RX10 158 0 2 mX3_size := by unfold tf_okV tf_okL; decide +kernel

set_option maxRecDepth 100000 in
theorem lX10_162 : tf_okS RX10 162 4 mX6_placeOf := by unfold tf_okS tf_okL; decide +kernel

set_option maxRecDepth 100000 in
theorem lX10_168 : tf_okV RX10 168 2 0 mX0_swap := by unfold tf_okV tf_okL; decide +kernel

set_option maxRecDepth 100000 in
theorem lX10_183 : tf_okV RX10 183 2 5 mX8_layOut := by unfold tf_okV tf_okL; decide +kernel

set_option maxRecDepth 100000 in
theorem lX10_187 : tf_okV RX10 187 2 5 mX8_farFrom := by unfold tf_okV tf_okL; decide +kernel

set_option maxRecDepth 100000 in
theorem lX10_194 : tf_okV RX10 194 3 5 mX8_outermost := by unfold tf_okV tf_okL; decide +kernel

set_option maxRecDepth 100000 in
theorem lX10_198 : tf_okV RX10 198 1 5 mX8_acheOf := by unfold tf_okV tf_okL; decide +kernel

set_option maxRecDepth 100000 in
theorem lX10_201 : tf_okV RX10 201 2 5 mX8_pausesWith := by unfold tf_okV tf_okL; decide +kernel

set_option maxRecDepth 100000 in
theorem lX10_215 : tf_okV RX10 215 3 5 mX8_timeBy := by unfold tf_okV tf_okL; decide +kernel

set_option maxRecDepth 100000 in
theorem lX10_219 : tf_okV RX10 219 1 5 mX8_uses := by unfold tf_okV tf_okL; decide +kernel

set_option maxRecDepth 100000 in
theorem lX10_222 : tf_okV RX10 222 4 5 mX8_timeExchanged := by unfold tf_okV tf_okL; decide +kernel

def tX10_timeOfMeant : tf_T := [(0, .iload_n 1, 1, 0, 0),
  (1, .invokestatic 122, 4, 0, 0),
  (4, .ifCond .ne 10, 7, 14, 0),
  (7, .iload_n 2, 8, 0, 0),
  (8, .invokestatic 61, 11, 0, 0),
  (11, .ifCond .eq 6, 14, 17, 0),
  (14, .bipush (-9), 16, 0, (-9)),
  (16, .ireturn, 17, 0, 0),
  (17, .aload_n 0, 18, 0, 0),
  (18, .getfield 31, 21, 0, 0),
  (21, .aload_n 0, 22, 0, 0),
  (22, .getfield 10, 25, 0, 0),
  (25, .getfield 87, 28, 0, 0),
  (28, .aload_n 0, 29, 0, 0),
  (29, .getfield 10, 32, 0, 0),
  (32, .getfield 97, 35, 0, 0),
  (35, .invokevirtual 145, 38, 0, 0),
  (38, .aload_n 0, 39, 0, 0),
  (39, .getfield 38, 42, 0, 0),
  (42, .aload_n 0, 43, 0, 0),
  (43, .getfield 10, 46, 0, 0),
  (46, .getfield 87, 49, 0, 0),
  (49, .aload_n 0, 50, 0, 0),
  (50, .getfield 10, 53, 0, 0),
  (53, .getfield 71, 56, 0, 0),
  (56, .iload_n 2, 57, 0, 0),
  (57, .aaload, 58, 0, 0),
  (58, .invokevirtual 183, 61, 0, 0),
  (61, .aload_n 0, 62, 0, 0),
  (62, .getfield 38, 65, 0, 0),
  (65, .aload_n 0, 66, 0, 0),
  (66, .getfield 10, 69, 0, 0),
  (69, .getfield 125, 72, 0, 0),
  (72, .iload_n 1, 73, 0, 0),
  (73, .aaload, 74, 0, 0),
  (74, .aload_n 0, 75, 0, 0),
  (75, .getfield 31, 78, 0, 0),
  (78, .iload_n 3, 79, 0, 0),
  (79, .invokevirtual 215, 82, 0, 0),
  (82, .ireturn, 83, 0, 0)]
set_option maxRecDepth 100000 in
theorem okX10_timeOfMeant : tf_okT cX10_timeOfMeant tX10_timeOfMeant := by unfold tf_okT; decide +kernel
theorem ftX10_timeOfMeant : 1 ≤ 6 ∧ tf_okF RX10 fX10 ∧ tf_okT cX10_timeOfMeant tX10_timeOfMeant := ⟨by decide, okfX10, okX10_timeOfMeant⟩
def mX10_timeOfMeant : tf_M := (yX10_timeOfMeant, cX10_timeOfMeant, 4, (some .int))

def tX10_bestExchange : tf_T := [(0, .iload_n 1, 1, 0, 0),
  (1, .invokestatic 122, 4, 0, 0),
  (4, .ifCond .ne 10, 7, 14, 0),
  (7, .iload_n 2, 8, 0, 0),
  (8, .invokestatic 61, 11, 0, 0),
  (11, .ifCond .eq 6, 14, 17, 0),
  (14, .bipush (-9), 16, 0, (-9)),
  (16, .ireturn, 17, 0, 0),
  (17, .aload_n 0, 18, 0, 0),
  (18, .getfield 38, 21, 0, 0),
  (21, .aload_n 0, 22, 0, 0),
  (22, .getfield 10, 25, 0, 0),
  (25, .getfield 87, 28, 0, 0),
  (28, .aload_n 0, 29, 0, 0),
  (29, .getfield 10, 32, 0, 0),
  (32, .getfield 71, 35, 0, 0),
  (35, .iload_n 2, 36, 0, 0),
  (36, .aaload, 37, 0, 0),
  (37, .invokevirtual 183, 40, 0, 0),
  (40, .aload_n 0, 41, 0, 0),
  (41, .getfield 38, 44, 0, 0),
  (44, .aload_n 0, 45, 0, 0),
  (45, .getfield 10, 48, 0, 0),
  (48, .getfield 125, 51, 0, 0),
  (51, .iload_n 1, 52, 0, 0),
  (52, .aaload, 53, 0, 0),
  (53, .aload_n 0, 54, 0, 0),
  (54, .getfield 31, 57, 0, 0),
  (57, .iconst 0, 58, 0, 0),
  (58, .invokevirtual 215, 61, 0, 0),
  (61, .istore_n 3, 62, 0, 0),
  (62, .bipush (-9), 64, 0, (-9)),
  (64, .istore 4, 66, 0, 0),
  (66, .iconst 0, 67, 0, 0),
  (67, .istore 5, 69, 0, 0),
  (69, .iload 5, 71, 0, 0),
  (71, .bipush 30, 73, 0, 30),
  (73, .if_icmp .ge 97, 76, 170, 0),
  (76, .iload 5, 78, 0, 0),
  (78, .iconst 1, 79, 0, 1),
  (79, .iadd, 80, 0, 0),
  (80, .istore 6, 82, 0, 0),
  (82, .iload 6, 84, 0, 0),
  (84, .bipush 30, 86, 0, 30),
  (86, .if_icmp .ge 78, 89, 164, 0),
  (89, .aload_n 0, 90, 0, 0),
  (90, .getfield 38, 93, 0, 0),
  (93, .iload 5, 95, 0, 0),
  (95, .invokevirtual 219, 98, 0, 0),
  (98, .ifCond .ne 15, 101, 113, 0),
  (101, .aload_n 0, 102, 0, 0),
  (102, .getfield 38, 105, 0, 0),
  (105, .iload 6, 107, 0, 0),
  (107, .invokevirtual 219, 110, 0, 0),
  (110, .ifCond .eq 48, 113, 158, 0),
  (113, .aload_n 0, 114, 0, 0),
  (114, .getfield 38, 117, 0, 0),
  (117, .aload_n 0, 118, 0, 0),
  (118, .getfield 10, 121, 0, 0),
  (121, .getfield 125, 124, 0, 0),
  (124, .iload_n 1, 125, 0, 0),
  (125, .aaload, 126, 0, 0),
  (126, .aload_n 0, 127, 0, 0),
  (127, .getfield 31, 130, 0, 0),
  (130, .iload 5, 132, 0, 0),
  (132, .iload 6, 134, 0, 0),
  (134, .invokevirtual 222, 137, 0, 0),
  (137, .istore 7, 139, 0, 0),
  (139, .iload 7, 141, 0, 0),
  (141, .iload_n 3, 142, 0, 0),
  (142, .if_icmp .ge 16, 145, 158, 0),
  (145, .iload 7, 147, 0, 0),
  (147, .istore_n 3, 148, 0, 0),
  (148, .bipush 100, 150, 0, 100),
  (150, .iload 5, 152, 0, 0),
  (152, .imul, 153, 0, 0),
  (153, .iload 6, 155, 0, 0),
  (155, .iadd, 156, 0, 0),
  (156, .istore 4, 158, 0, 0),
  (158, .iinc 6 1, 161, 0, 1),
  (161, .goto (-79), 164, 82, 0),
  (164, .iinc 5 1, 167, 0, 1),
  (167, .goto (-98), 170, 69, 0),
  (170, .iload 4, 172, 0, 0),
  (172, .ireturn, 173, 0, 0)]
set_option maxRecDepth 100000 in
theorem okX10_bestExchange : tf_okT cX10_bestExchange tX10_bestExchange := by unfold tf_okT; decide +kernel
theorem ftX10_bestExchange : 1 ≤ 6 ∧ tf_okF RX10 fX10 ∧ tf_okT cX10_bestExchange tX10_bestExchange := ⟨by decide, okfX10, okX10_bestExchange⟩
def mX10_bestExchange : tf_M := (yX10_bestExchange, cX10_bestExchange, 8, (some .int))

def tX10_handNearest : tf_T := [(0, .iconst 0, 1, 0, 0),
  (1, .istore_n 1, 2, 0, 0),
  (2, .aload_n 0, 3, 0, 0),
  (3, .getfield 38, 6, 0, 0),
  (6, .aload_n 0, 7, 0, 0),
  (7, .getfield 10, 10, 0, 0),
  (10, .getfield 180, 13, 0, 0),
  (13, .aload_n 0, 14, 0, 0),
  (14, .getfield 10, 17, 0, 0),
  (17, .getfield 125, 20, 0, 0),
  (20, .iconst 0, 21, 0, 0),
  (21, .aaload, 22, 0, 0),
  (22, .invokevirtual 187, 25, 0, 0),
  (25, .istore_n 2, 26, 0, 0),
  (26, .iconst 1, 27, 0, 1),
  (27, .istore_n 3, 28, 0, 0),
  (28, .iload_n 3, 29, 0, 0),
  (29, .iconst 4, 30, 0, 4),
  (30, .if_icmp .ge 57, 33, 87, 0),
  (33, .aload_n 0, 34, 0, 0),
  (34, .getfield 38, 37, 0, 0),
  (37, .aload_n 0, 38, 0, 0),
  (38, .getfield 10, 41, 0, 0),
  (41, .getfield 180, 44, 0, 0),
  (44, .aload_n 0, 45, 0, 0),
  (45, .getfield 10, 48, 0, 0),
  (48, .getfield 125, 51, 0, 0),
  (51, .iload_n 3, 52, 0, 0),
  (52, .aaload, 53, 0, 0),
  (53, .invokevirtual 187, 56, 0, 0),
  (56, .istore 4, 58, 0, 0),
  (58, .iload 4, 60, 0, 0),
  (60, .iload_n 2, 61, 0, 0),
  (61, .if_icmp .ge 11, 64, 72, 0),
  (64, .iload 4, 66, 0, 0),
  (66, .istore_n 2, 67, 0, 0),
  (67, .iload_n 3, 68, 0, 0),
  (68, .istore_n 1, 69, 0, 0),
  (69, .goto 12, 72, 81, 0),
  (72, .iload 4, 74, 0, 0),
  (74, .iload_n 2, 75, 0, 0),
  (75, .if_icmp .ne 6, 78, 81, 0),
  (78, .bipush (-9), 80, 0, (-9)),
  (80, .istore_n 1, 81, 0, 0),
  (81, .iinc 3 1, 84, 0, 1),
  (84, .goto (-56), 87, 28, 0),
  (87, .iload_n 1, 88, 0, 0),
  (88, .ireturn, 89, 0, 0)]
set_option maxRecDepth 100000 in
theorem okX10_handNearest : tf_okT cX10_handNearest tX10_handNearest := by unfold tf_okT; decide +kernel
theorem ftX10_handNearest : 1 ≤ 7 ∧ tf_okF RX10 fX10 ∧ tf_okT cX10_handNearest tX10_handNearest := ⟨by decide, okfX10, okX10_handNearest⟩
def mX10_handNearest : tf_M := (yX10_handNearest, cX10_handNearest, 5, (some .int))

def tX10_allAtPace : tf_T := [(0, .iload_n 2, 1, 0, 0),
  (1, .iconst 1, 2, 0, 1),
  (2, .if_icmp .lt 9, 5, 11, 0),
  (5, .iload_n 2, 6, 0, 0),
  (6, .bipush 9, 8, 0, 9),
  (8, .if_icmp .le 6, 11, 14, 0),
  (11, .bipush (-9), 13, 0, (-9)),
  (13, .ireturn, 14, 0, 0),
  (14, .aload_n 0, 15, 0, 0),
  (15, .getfield 10, 18, 0, 0),
  (18, .getfield 87, 21, 0, 0),
  (21, .invokevirtual 54, 24, 0, 0),
  (24, .iload_n 2, 25, 0, 0),
  (25, .imul, 26, 0, 0),
  (26, .iload_n 2, 27, 0, 0),
  (27, .imul, 28, 0, 0),
  (28, .bipush 100, 30, 0, 100),
  (30, .idiv, 31, 0, 0),
  (31, .istore 4, 33, 0, 0),
  (33, .iload_n 1, 34, 0, 0),
  (34, .bipush 10, 36, 0, 10),
  (36, .imul, 37, 0, 0),
  (37, .bipush 10, 39, 0, 10),
  (39, .iload_n 2, 40, 0, 0),
  (40, .iadd, 41, 0, 0),
  (41, .idiv, 42, 0, 0),
  (42, .iload 4, 44, 0, 0),
  (44, .iload_n 3, 45, 0, 0),
  (45, .imul, 46, 0, 0),
  (46, .iadd, 47, 0, 0),
  (47, .ireturn, 48, 0, 0)]
set_option maxRecDepth 100000 in
theorem okX10_allAtPace : tf_okT cX10_allAtPace tX10_allAtPace := by unfold tf_okT; decide +kernel
theorem ftX10_allAtPace : 1 ≤ 2 ∧ tf_okF RX10 fX10 ∧ tf_okT cX10_allAtPace tX10_allAtPace := ⟨by decide, okfX10, okX10_allAtPace⟩
def mX10_allAtPace : tf_M := (yX10_allAtPace, cX10_allAtPace, 5, (some .int))

def tX10_refuse : tf_T := [(0, .iload_n 1, 1, 0, 0),
  (1, .ifCond .ge 20, 4, 21, 0),
  (4, .iload_n 1, 5, 0, 0),
  (5, .bipush (-6), 7, 0, (-6)),
  (7, .if_icmp .lt 14, 10, 21, 0),
  (10, .aload_n 0, 11, 0, 0),
  (11, .getfield 42, 14, 0, 0),
  (14, .iload_n 1, 15, 0, 0),
  (15, .ineg, 16, 0, 0),
  (16, .dup2, 17, 0, 0),
  (17, .iaload, 18, 0, 0),
  (18, .iconst 1, 19, 0, 1),
  (19, .iadd, 20, 0, 0),
  (20, .iastore, 21, 0, 0),
  (21, .iload_n 1, 22, 0, 0),
  (22, .ireturn, 23, 0, 0)]
set_option maxRecDepth 100000 in
theorem okX10_refuse : tf_okT cX10_refuse tX10_refuse := by unfold tf_okT; decide +kernel
theorem ftX10_refuse : 1 ≤ 1 ∧ tf_okF RX10 fX10 ∧ tf_okT cX10_refuse tX10_refuse := ⟨by decide, okfX10, okX10_refuse⟩
def mX10_refuse : tf_M := (yX10_refuse, cX10_refuse, 2, (some .int))

def tX10_refusalsOf : tf_T := [(0, .iload_n 1, 1, 0, 0),
  (1, .bipush 10, 3, 0, 10),
  (3, .if_icmp .le 9, 6, 12, 0),
  (6, .iload_n 1, 7, 0, 0),
  (7, .bipush 16, 9, 0, 16),
  (9, .if_icmp .le 6, 12, 15, 0),
  (12, .bipush (-9), 14, 0, (-9)),
  (14, .ireturn, 15, 0, 0),
  (15, .aload_n 0, 16, 0, 0),
  (16, .getfield 42, 19, 0, 0),
  (19, .iload_n 1, 20, 0, 0),
  (20, .bipush 10, 22, 0, 10),
  (22, .isub, 23, 0, 0),
  (23, .iaload, 24, 0, 0),
  (24, .ireturn, 25, 0, 0)]
set_option maxRecDepth 100000 in
theorem okX10_refusalsOf : tf_okT cX10_refusalsOf tX10_refusalsOf := by unfold tf_okT; decide +kernel
theorem ftX10_refusalsOf : 1 ≤ 1 ∧ tf_okF RX10 fX10 ∧ tf_okT cX10_refusalsOf tX10_refusalsOf := ⟨by decide, okfX10, okX10_refusalsOf⟩
def mX10_refusalsOf : tf_M := (yX10_refusalsOf, cX10_refusalsOf, 2, (some .int))

set_option maxRecDepth 100000 in
theorem lX10_50 : tf_okV RX10 50 1 7 mX10_refuse := by unfold tf_okV tf_okL; decide +kernel

set_option maxRecDepth 100000 in
theorem lX10_159 : tf_okV RX10 159 3 7 mX10_timeOfMeant := by unfold tf_okV tf_okL; decide +kernel

set_option maxRecDepth 100000 in
theorem lX10_172 : tf_okV RX10 172 2 7 mX10_bestExchange := by unfold tf_okV tf_okL; decide +kernel

set_option maxRecDepth 100000 in
theorem lX10_191 : tf_okV RX10 191 0 7 mX10_handNearest := by unfold tf_okV tf_okL; decide +kernel

set_option maxRecDepth 100000 in
theorem lX10_204 : tf_okV RX10 204 3 7 mX10_allAtPace := by unfold tf_okV tf_okL; decide +kernel

set_option maxRecDepth 100000 in
theorem lX10_212 : tf_okV RX10 212 1 7 mX10_refusalsOf := by unfold tf_okV tf_okL; decide +kernel

/-! what now holds, as the inner classes want it -/
theorem nw_M {N : Nat} {S : tf_Sg} {f : Nat → Nat} (hS : tf_st S 5 f) (hg : tf_gd f) : tf_sV (tf_GG N) S 28 40 (f 364) (fun j => nI (f (144 + j))) := tf_sV_of (o := 28) hS.2.2.1 se28 rfl hg.1.1
theorem nw_W {N : Nat} {S : tf_Sg} {f : Nat → Nat} (hS : tf_st S 5 f) (hg : tf_gd f) : tf_sV (tf_GG N) S 30 40 (f 365) (fun j => nI (f (184 + j))) := tf_sV_of (o := 30) hS.2.2.2.1 se30 rfl hg.1.2.1
theorem nw_R {N : Nat} {S : tf_Sg} {f : Nat → Nat} (hS : tf_st S 5 f) (hg : tf_gd f) : tf_sV (tf_GG N) S 55 40 (f 367) (fun j => nI (f (324 + j))) := tf_sV_of (o := 55) hS.2.2.2.2.2 se55 rfl hg.1.2.2.2
theorem nw_V {S : tf_Sg} {f : Nat → Nat} (hS : tf_st S 5 f) : tf_wv S f := ⟨hS.2.2.2.2.1.1, hS.2.2.2.2.1.2.1⟩
theorem nw_B {N : Nat} {S : tf_Sg} {f : Nat → Nat} {b : Nat} (hS : tf_st S 5 f) (hb : b < 4) : ∀ l, l < 26 → S (tf_rf (tf_GG N) (7 + 3 * b) 1) l = tf_on 30 (tf_ke f b l) := by rw [(bdn hb).2.2.1]; exact (hS.1 b hb).2
theorem nw_Br {N : Nat} {b : Nat} (hb : b < 4) : tf_rf (tf_GG N) (7 + 3 * b) 1 < 121 ∨ 123 < tf_rf (tf_GG N) (7 + 3 * b) 1 := by rw [(bdn hb).2.2.1]; omega
theorem nw_H {N : Nat} {S : tf_Sg} {f : Nat → Nat} {h : Nat} (hS : tf_st S 5 f) (hb : h < 4) : ∀ j, j < 6 → S (tf_rf (tf_GG N) (20 + 2 * h) 0) j = nI (tf_ll f h j) := by rw [(hdn hb).2.1]; exact hS.2.1 h hb
theorem nw_l9 {f : Nat → Nat} {h : Nat} (hg : tf_gd f) (hb : h < 4) : ∀ j, j < 6 → tf_ll f h j ≤ 999 := fun j hj => by have := hg.2.2.2.2.2.1 (6 * h + j) (by omega); rw [← Nat.add_assoc] at this; exact this
/-- but for scratch the same -/
def tf_sx (S X : tf_Sg) : Prop := ∀ a, (a ≤ 110 ∨ 124 ≤ a) → X a = S a
theorem tf_sx_pk {S : tf_Sg} {f : Nat → Nat} {a b c e : Nat} : tf_sx S (tf_pk S f a b c e) := fun x hx => tf_pk_fr (by omega)
theorem tf_sx_ly {S : tf_Sg} {K : Nat → Nat} {n : Nat} : tf_sx S (tf_ly S K n) := fun x hx => tf_ly_fr (by omega)
theorem tf_sx_id {S : tf_Sg} : tf_sx S S := fun _ _ => rfl
theorem tf_sx_tr {S X Y : tf_Sg} (h1 : tf_sx S X) (h2 : tf_sx X Y) : tf_sx S Y := fun a ha => (h2 a ha).trans (h1 a ha)
theorem nw_st {S X : tf_Sg} {f : Nat → Nat} (hS : tf_st S 5 f) (hg : tf_gd f) (hx : tf_sx S X) : tf_st X 5 f := tf_st_c hS hg (fun a _ h2 => hx a (by omega))
theorem nw_1 {S X : tf_Sg} (h : ∀ j, j < 10 → S 1 j = nI (tf_fi j 0)) (hx : tf_sx S X) : ∀ j, j < 10 → X 1 j = nI (tf_fi j 0) := by rw [hx 1 (by omega)]; exact h
def tf_px (S : tf_Sg) (f : Nat → Nat) : tf_Sg := tf_pk S f (tf_np f 40 0) (tf_np f 40 0) (tf_np f 40 0) (f 364)
def tf_lx (S : tf_Sg) (f : Nat → Nat) (b : Nat) : tf_Sg := tf_ly S (tf_kk f b) (f 364)
theorem tf_sx_px {S : tf_Sg} {f : Nat → Nat} : tf_sx S (tf_px S f) := tf_sx_pk
theorem tf_sx_lx {S : tf_Sg} {f : Nat → Nat} {b : Nat} : tf_sx S (tf_lx S f b) := tf_sx_ly
theorem n_cut {N : Nat} {S : tf_Sg} {f : Nat → Nat} (hS : tf_st S 5 f) (hg : tf_gd f) (hb : ∀ k, f k < 10000) : tf_Fn mX3_cutFrom 4 0 0 (tf_GG N) S [.ref 111, .ref 28, .ref 32] (tf_GG N) (tf_px S f) none := q_cut (nw_V hS) hg hb (nw_M hS hg)
theorem n_lay {N : Nat} {S : tf_Sg} {f : Nat → Nat} {bn : Nat} (hS : tf_st S 5 f) (hg : tf_gd f) (hb : ∀ k, f k < 10000) (hbn : bn < 4) : tf_Fn mX8_layOut 2 0 0 (tf_GG N) S [.ref 120, .ref 28, .ref (7 + 3 * bn)] (tf_GG N) (tf_lx S f bn) none := t_layOut (nw_M hS hg) hb (bdn hbn).1 (nw_Br hbn) (nw_B hS hbn) hg.2.2.1
theorem nw_np {f : Nat → Nat} (hg : tf_gd f) : tf_np f 40 0 ≤ 40 ∧ ∀ i, i < tf_np f 40 0 → tf_ps f i < f 364 := by
  have g := hg.1.1
  have h : ∀ m j, m + j = 40 → (∀ i, i < j → tf_ps f i < f 364) → tf_np f 40 0 ≤ 40 ∧ ∀ i, i < tf_np f 40 0 → tf_ps f i < f 364 := by
    intro m
    induction m with
    | zero =>
      intro j hj hi
      have : ¬ tf_ps f j < f 364 := by have := tf_ps_ge hg j; omega
      rw [tf_np_eq hg hi this]
      exact ⟨by omega, hi⟩
    | succ m ih =>
      intro j hj hi
      by_cases c : tf_ps f j < f 364
      · exact ih (j + 1) (by omega) (fun i h2 => by by_cases q : i = j; rw [q]; exact c; exact hi i (by omega))
      · rw [tf_np_eq hg hi c]
        exact ⟨by omega, hi⟩
  exact h 40 0 rfl (fun i hi => absurd hi (Nat.not_lt_zero i))
theorem nw_H4 {N : Nat} {S : tf_Sg} {f : Nat → Nat} : f 364 ≤ 40 → tf_sV (tf_GG N) (tf_px S f) 118 40 (f 364) (fun j => nI (tf_hu f j)) := fun h => tf_pk_4 h
theorem nw_H4x {N : Nat} {S : tf_Sg} {g : Nat → Nat} {b n : Nat} {H : Nat → Int32} (h : tf_sV (tf_GG N) S 118 40 n H) : tf_sV (tf_GG N) (tf_lx S g b) 118 40 n H := tf_sV_fr h (tf_ly_fr (by decide)) (tf_ly_fr (by show 119 < 121 ∨ 123 < 119; decide))
theorem nw_K {N : Nat} {S : tf_Sg} {f : Nat → Nat} {b : Nat} (hg : tf_gd f) : tf_sV (tf_GG N) (tf_lx S f b) 121 40 (f 364) (fun j => tf_on 30 (tf_kk f b j)) := tf_ly_K hg.1.1

set_option maxHeartbeats 1000000 in
theorem n_time {N : Nat} {S : tf_Sg} {f : Nat → Nat} {hn bn t : Nat} (hS : tf_st S 5 f) (h1j : ∀ j, j < 10 → S 1 j = nI (tf_fi j 0)) (hg : tf_gd f) (hb : ∀ k, f k < 10000) (hhn : hn < 4) (hbn : bn < 4) (ht : t < 2) : tf_Fn mX10_timeOfMeant 6 0 0 (tf_GG N) S [.ref 4, .int (nI hn), .int (nI bn), .int (nI t)] (tf_GG N) (tf_lx (tf_px S f) f bn) (some (.int (nI (tf_tm f hn bn t)))) := by
  have g40 := hg.1.1
  have g67 := hg.1.2.2.2
  refine tf_Fn_of (own := RX10) false ⟨by decide, rfl, by decide⟩ (Nat.le_of_ble_eq_true rfl) trivial (fun x hx hR => ?_)
  show tf_K x 0 0 (tf_GG N) S 0 [some (.ref 4), some (.int (nI hn)), some (.int (nI bn)), some (.int (nI t))] []
  refine tf_go hx ftX10_timeOfMeant 1 [] 1 [some (.ref 4), some (.int (nI hn)), some (.int (nI bn)), some (.int (nI t))] [.int (nI hn)] S rfl ⟨by decide, by decide, rfl⟩ trivial ?_
  refine tf_cS hx ftX10_timeOfMeant (nx := 4) (As := [.int (nI hn)]) (rest := []) (st2 := [.int (if ¬ (nI hn) < 0 ∧ ¬ 4 ≤ (nI hn) then 0 else 1)]) (c_noHand (nI hn)) rfl lX10_122 rfl ⟨rfl, by decide, by decide, by decide, rfl, rfl⟩ ?_
  rw [if_pos (show ¬ nI hn < 0 ∧ ¬ 4 ≤ nI hn from ⟨tf_ltF (a := hn) (b := 0) rfl rfl (by omega) (by omega) (by omega), tf_leF (a := 4) (b := hn) rfl rfl (by omega) (by omega) (by omega)⟩)]
  refine tf_go hx ftX10_timeOfMeant 1 [false] 7 [some (.ref 4), some (.int (nI hn)), some (.int (nI bn)), some (.int (nI t))] [] S rfl ⟨by decide, by decide, rfl⟩ ⟨trivial, (by decide)⟩ ?_
  refine tf_go hx ftX10_timeOfMeant 1 [] 8 [some (.ref 4), some (.int (nI hn)), some (.int (nI bn)), some (.int (nI t))] [.int (nI bn)] S rfl ⟨by decide, by decide, rfl⟩ trivial ?_
  refine tf_cS hx ftX10_timeOfMeant (nx := 11) (As := [.int (nI bn)]) (rest := []) (st2 := [.int (if ¬ (nI bn) < 0 ∧ ¬ 4 ≤ (nI bn) then 0 else 1)]) (c_noBoard (nI bn)) rfl lX10_61 rfl ⟨rfl, by decide, by decide, by decide, rfl, rfl⟩ ?_
  rw [if_pos (show ¬ nI bn < 0 ∧ ¬ 4 ≤ nI bn from ⟨tf_ltF (a := bn) (b := 0) rfl rfl (by omega) (by omega) (by omega), tf_leF (a := 4) (b := bn) rfl rfl (by omega) (by omega) (by omega)⟩)]
  refine tf_go hx ftX10_timeOfMeant 1 [true] 17 [some (.ref 4), some (.int (nI hn)), some (.int (nI bn)), some (.int (nI t))] [] S rfl ⟨by decide, by decide, rfl⟩ ⟨trivial, rfl⟩ ?_
  have hS1 : tf_st (tf_px S f) 5 f := nw_st hS hg tf_sx_px
  have hS2 : tf_st (tf_lx (tf_px S f) f bn) 5 f := nw_st hS1 hg tf_sx_lx
  have hk1 : tf_k1 (tf_GG N) (tf_lx (tf_px S f) f bn) := tf_k1_of (nw_1 (nw_1 h1j tf_sx_px) tf_sx_lx)
  refine tf_go hx ftX10_timeOfMeant 8 [] 35 [some (.ref 4), some (.int (nI hn)), some (.int (nI bn)), some (.int (nI t))] [.ref 32, .ref 28, .ref 111] S rfl ⟨by decide, by decide, rfl⟩ ⟨⟨⟨⟨⟨trivial, ⟨by first | assumption | rfl | decide | omega | exact Nat.succ_ne_zero _, by first | assumption | rfl | decide | omega | exact Nat.succ_ne_zero _⟩⟩, ⟨by first | assumption | rfl | decide | omega | exact Nat.succ_ne_zero _, by first | assumption | rfl | decide | omega | exact Nat.succ_ne_zero _⟩⟩, ⟨by first | assumption | rfl | decide | omega | exact Nat.succ_ne_zero _, by first | assumption | rfl | decide | omega | exact Nat.succ_ne_zero _⟩⟩, ⟨by first | assumption | rfl | decide | omega | exact Nat.succ_ne_zero _, by first | assumption | rfl | decide | omega | exact Nat.succ_ne_zero _⟩⟩, ⟨by first | assumption | rfl | decide | omega | exact Nat.succ_ne_zero _, by first | assumption | rfl | decide | omega | exact Nat.succ_ne_zero _⟩⟩ ?_
  refine tf_cV hx ftX10_timeOfMeant (nx := 38) (As := [.ref 28, .ref 32]) (rest := []) (st2 := []) (n_cut hS hg hb) rfl lX10_145 (by first | assumption | rfl | decide) rfl ⟨rfl, by decide, by decide, by decide, rfl, rfl⟩ ?_
  have ar : tf_rf (tf_GG N) 6 (Int32.toNatClampNeg (nI bn)) = 7 + 3 * bn := by rw [tf_cl_nI (by omega)]; exact (bdn hbn).2.2.2
  have arn : tf_rf (tf_GG N) 6 (Int32.toNatClampNeg (nI bn)) ≠ 0 := by rw [ar]; omega
  refine tf_go hx ftX10_timeOfMeant 10 [] 58 [some (.ref 4), some (.int (nI hn)), some (.int (nI bn)), some (.int (nI t))] [.ref (tf_rf (tf_GG N) 6 (Int32.toNatClampNeg (nI bn))), .ref 28, .ref 120] (tf_px S f) rfl ⟨by decide, by decide, rfl⟩ ⟨⟨⟨⟨⟨⟨trivial, ⟨by first | assumption | rfl | decide | omega | exact Nat.succ_ne_zero _, by first | assumption | rfl | decide | omega | exact Nat.succ_ne_zero _⟩⟩, ⟨by first | assumption | rfl | decide | omega | exact Nat.succ_ne_zero _, by first | assumption | rfl | decide | omega | exact Nat.succ_ne_zero _⟩⟩, ⟨by first | assumption | rfl | decide | omega | exact Nat.succ_ne_zero _, by first | assumption | rfl | decide | omega | exact Nat.succ_ne_zero _⟩⟩, ⟨by first | assumption | rfl | decide | omega | exact Nat.succ_ne_zero _, by first | assumption | rfl | decide | omega | exact Nat.succ_ne_zero _⟩⟩, ⟨by first | assumption | rfl | decide | omega | exact Nat.succ_ne_zero _, by first | assumption | rfl | decide | omega | exact Nat.succ_ne_zero _⟩⟩, ⟨by first | assumption | exact Or.inl rfl | exact Or.inr (Or.inl rfl) | exact Or.inr (Or.inr rfl) | omega, by exact tf_in (n := bn) (N := 4) rfl (by first | assumption | rfl) (by omega) (by decide), by first | assumption | rfl | decide | omega | exact Nat.succ_ne_zero _⟩⟩ ?_
  rw [ar]
  clear ar arn
  refine tf_cV hx ftX10_timeOfMeant (nx := 61) (As := [.ref 28, .ref (7 + 3 * bn)]) (rest := []) (st2 := []) (n_lay hS1 hg hb hbn) rfl lX10_183 (by first | assumption | rfl | decide) rfl ⟨rfl, by decide, by decide, by decide, rfl, rfl⟩ ?_
  have ar : tf_rf (tf_GG N) 19 (Int32.toNatClampNeg (nI hn)) = 20 + 2 * hn := by rw [tf_cl_nI (by omega)]; exact (hdn hhn).2.2
  have arn : tf_rf (tf_GG N) 19 (Int32.toNatClampNeg (nI hn)) ≠ 0 := by rw [ar]; omega
  refine tf_go hx ftX10_timeOfMeant 7 [] 74 [some (.ref 4), some (.int (nI hn)), some (.int (nI bn)), some (.int (nI t))] [.ref (tf_rf (tf_GG N) 19 (Int32.toNatClampNeg (nI hn))), .ref 120] (tf_lx (tf_px S f) f bn) rfl ⟨by decide, by decide, rfl⟩ ⟨⟨⟨⟨trivial, ⟨by first | assumption | rfl | decide | omega | exact Nat.succ_ne_zero _, by first | assumption | rfl | decide | omega | exact Nat.succ_ne_zero _⟩⟩, ⟨by first | assumption | rfl | decide | omega | exact Nat.succ_ne_zero _, by first | assumption | rfl | decide | omega | exact Nat.succ_ne_zero _⟩⟩, ⟨by first | assumption | rfl | decide | omega | exact Nat.succ_ne_zero _, by first | assumption | rfl | decide | omega | exact Nat.succ_ne_zero _⟩⟩, ⟨by first | assumption | exact Or.inl rfl | exact Or.inr (Or.inl rfl) | exact Or.inr (Or.inr rfl) | omega, by exact tf_in (n := hn) (N := 4) rfl (by first | assumption | rfl) (by omega) (by decide), by first | assumption | rfl | decide | omega | exact Nat.succ_ne_zero _⟩⟩ ?_
  rw [ar]
  clear ar arn
  have th : tf_tg (tf_GG N) (20 + 2 * hn) = 1 := (hdn hhn).1.1
  refine tf_go hx ftX10_timeOfMeant 3 [] 79 [some (.ref 4), some (.int (nI hn)), some (.int (nI bn)), some (.int (nI t))] [.int (nI t), .ref 111, .ref (20 + 2 * hn), .ref 120] (tf_lx (tf_px S f) f bn) rfl ⟨by decide, by decide, rfl⟩ ⟨trivial, ⟨by first | assumption | rfl | decide | omega | exact Nat.succ_ne_zero _, by first | assumption | rfl | decide | omega | exact Nat.succ_ne_zero _⟩⟩ ?_
  refine tf_cV hx ftX10_timeOfMeant (nx := 82) (As := [.ref (20 + 2 * hn), .ref 111, .int (nI t)]) (rest := []) (st2 := [.int (nI (tf_tm f hn bn t))]) ((by have h := t_timeBy (N := N) (S := (tf_lx (tf_px S f) f bn)) (K := tf_kk f bn) (L := tf_ll f hn) (H := tf_hu f) (t := t) (nw_K hg) (fun i _ => tf_kk_le f bn i) (hdn hhn).1 (nw_H hS2 hhn) hk1 (nw_H4x (nw_H4 g40)) (fun i _ => tf_hu_le f i) (nw_l9 hg hhn) ht; rw [← tf_tm_tS hg] at h; exact h)) rfl lX10_215 (by first | assumption | rfl | decide) rfl ⟨rfl, by decide, by decide, by decide, rfl, rfl⟩ ?_
  exact tf_ret ftX10_timeOfMeant hR rfl ⟨by decide, by decide⟩ rfl rfl rfl

set_option maxHeartbeats 1000000 in
theorem n_best {N : Nat} {S : tf_Sg} {f : Nat → Nat} {hn bn : Nat} (hS : tf_st S 5 f) (h1j : ∀ j, j < 10 → S 1 j = nI (tf_fi j 0)) (hg : tf_gd f) (hb : ∀ k, f k < 10000) (hH : tf_sV (tf_GG N) S 118 40 (f 364) (fun j => nI (tf_hu f j))) (hhn : hn < 4) (hbn : bn < 4) : tf_Fn mX10_bestExchange 6 0 0 (tf_GG N) S [.ref 4, .int (nI hn), .int (nI bn)] (tf_GG N) (tf_lx S f bn) (some (.int (tf_on 3000 (tf_be f hn bn)))) := by
  have g40 := hg.1.1
  have g67 := hg.1.2.2.2
  refine tf_Fn_of (own := RX10) false ⟨by decide, rfl, by decide⟩ (Nat.le_of_ble_eq_true rfl) trivial (fun x hx hR => ?_)
  show tf_K x 0 0 (tf_GG N) S 0 [some (.ref 4), some (.int (nI hn)), some (.int (nI bn)), none, none, none, none, none] []
  refine tf_go hx ftX10_bestExchange 1 [] 1 [some (.ref 4), some (.int (nI hn)), some (.int (nI bn)), none, none, none, none, none] [.int (nI hn)] S rfl ⟨by decide, by decide, rfl⟩ trivial ?_
  refine tf_cS hx ftX10_bestExchange (nx := 4) (As := [.int (nI hn)]) (rest := []) (st2 := [.int (if ¬ (nI hn) < 0 ∧ ¬ 4 ≤ (nI hn) then 0 else 1)]) (c_noHand (nI hn)) rfl lX10_122 rfl ⟨rfl, by decide, by decide, by decide, rfl, rfl⟩ ?_
  rw [if_pos (show ¬ nI hn < 0 ∧ ¬ 4 ≤ nI hn from ⟨tf_ltF (a := hn) (b := 0) rfl rfl (by omega) (by omega) (by omega), tf_leF (a := 4) (b := hn) rfl rfl (by omega) (by omega) (by omega)⟩)]
  refine tf_go hx ftX10_bestExchange 1 [false] 7 [some (.ref 4), some (.int (nI hn)), some (.int (nI bn)), none, none, none, none, none] [] S rfl ⟨by decide, by decide, rfl⟩ ⟨trivial, (by decide)⟩ ?_
  refine tf_go hx ftX10_bestExchange 1 [] 8 [some (.ref 4), some (.int (nI hn)), some (.int (nI bn)), none, none, none, none, none] [.int (nI bn)] S rfl ⟨by decide, by decide, rfl⟩ trivial ?_
  refine tf_cS hx ftX10_bestExchange (nx := 11) (As := [.int (nI bn)]) (rest := []) (st2 := [.int (if ¬ (nI bn) < 0 ∧ ¬ 4 ≤ (nI bn) then 0 else 1)]) (c_noBoard (nI bn)) rfl lX10_61 rfl ⟨rfl, by decide, by decide, by decide, rfl, rfl⟩ ?_
  rw [if_pos (show ¬ nI bn < 0 ∧ ¬ 4 ≤ nI bn from ⟨tf_ltF (a := bn) (b := 0) rfl rfl (by omega) (by omega) (by omega), tf_leF (a := 4) (b := bn) rfl rfl (by omega) (by omega) (by omega)⟩)]
  refine tf_go hx ftX10_bestExchange 1 [true] 17 [some (.ref 4), some (.int (nI hn)), some (.int (nI bn)), none, none, none, none, none] [] S rfl ⟨by decide, by decide, rfl⟩ ⟨trivial, rfl⟩ ?_
  have hS2 : tf_st (tf_lx S f bn) 5 f := nw_st hS hg tf_sx_lx
  have hk1 : tf_k1 (tf_GG N) (tf_lx S f bn) := tf_k1_of (nw_1 h1j tf_sx_lx)
  have tl := tf_tm_le hg (b := bn) (t := 0) hhn
  have hU : ∀ k, k < 30 → (tf_lx S f bn) 123 k = if tf_us (tf_kk f bn) k (f 364) = true then 1 else 0 := fun k hk => tf_ly_u hk
  have hbe := tf_be_ok f hn bn
  have ar : tf_rf (tf_GG N) 6 (Int32.toNatClampNeg (nI bn)) = 7 + 3 * bn := by rw [tf_cl_nI (by omega)]; exact (bdn hbn).2.2.2
  have arn : tf_rf (tf_GG N) 6 (Int32.toNatClampNeg (nI bn)) ≠ 0 := by rw [ar]; omega
  refine tf_go hx ftX10_bestExchange 10 [] 37 [some (.ref 4), some (.int (nI hn)), some (.int (nI bn)), none, none, none, none, none] [.ref (tf_rf (tf_GG N) 6 (Int32.toNatClampNeg (nI bn))), .ref 28, .ref 120] S rfl ⟨by decide, by decide, rfl⟩ ⟨⟨⟨⟨⟨⟨trivial, ⟨by first | assumption | rfl | decide | omega | exact Nat.succ_ne_zero _, by first | assumption | rfl | decide | omega | exact Nat.succ_ne_zero _⟩⟩, ⟨by first | assumption | rfl | decide | omega | exact Nat.succ_ne_zero _, by first | assumption | rfl | decide | omega | exact Nat.succ_ne_zero _⟩⟩, ⟨by first | assumption | rfl | decide | omega | exact Nat.succ_ne_zero _, by first | assumption | rfl | decide | omega | exact Nat.succ_ne_zero _⟩⟩, ⟨by first | assumption | rfl | decide | omega | exact Nat.succ_ne_zero _, by first | assumption | rfl | decide | omega | exact Nat.succ_ne_zero _⟩⟩, ⟨by first | assumption | rfl | decide | omega | exact Nat.succ_ne_zero _, by first | assumption | rfl | decide | omega | exact Nat.succ_ne_zero _⟩⟩, ⟨by first | assumption | exact Or.inl rfl | exact Or.inr (Or.inl rfl) | exact Or.inr (Or.inr rfl) | omega, by exact tf_in (n := bn) (N := 4) rfl (by first | assumption | rfl) (by omega) (by decide), by first | assumption | rfl | decide | omega | exact Nat.succ_ne_zero _⟩⟩ ?_
  rw [ar]
  clear ar arn
  refine tf_cV hx ftX10_bestExchange (nx := 40) (As := [.ref 28, .ref (7 + 3 * bn)]) (rest := []) (st2 := []) (n_lay hS hg hb hbn) rfl lX10_183 (by first | assumption | rfl | decide) rfl ⟨rfl, by decide, by decide, by decide, rfl, rfl⟩ ?_
  have th : tf_tg (tf_GG N) (20 + 2 * hn) = 1 := (hdn hhn).1.1
  have ar : tf_rf (tf_GG N) 19 (Int32.toNatClampNeg (nI hn)) = 20 + 2 * hn := by rw [tf_cl_nI (by omega)]; exact (hdn hhn).2.2
  have arn : tf_rf (tf_GG N) 19 (Int32.toNatClampNeg (nI hn)) ≠ 0 := by rw [ar]; omega
  refine tf_go hx ftX10_bestExchange 7 [] 53 [some (.ref 4), some (.int (nI hn)), some (.int (nI bn)), none, none, none, none, none] [.ref (tf_rf (tf_GG N) 19 (Int32.toNatClampNeg (nI hn))), .ref 120] (tf_lx S f bn) rfl ⟨by decide, by decide, rfl⟩ ⟨⟨⟨⟨trivial, ⟨by first | assumption | rfl | decide | omega | exact Nat.succ_ne_zero _, by first | assumption | rfl | decide | omega | exact Nat.succ_ne_zero _⟩⟩, ⟨by first | assumption | rfl | decide | omega | exact Nat.succ_ne_zero _, by first | assumption | rfl | decide | omega | exact Nat.succ_ne_zero _⟩⟩, ⟨by first | assumption | rfl | decide | omega | exact Nat.succ_ne_zero _, by first | assumption | rfl | decide | omega | exact Nat.succ_ne_zero _⟩⟩, ⟨by first | assumption | exact Or.inl rfl | exact Or.inr (Or.inl rfl) | exact Or.inr (Or.inr rfl) | omega, by exact tf_in (n := hn) (N := 4) rfl (by first | assumption | rfl) (by omega) (by decide), by first | assumption | rfl | decide | omega | exact Nat.succ_ne_zero _⟩⟩ ?_
  rw [ar]
  clear ar arn
  refine tf_go hx ftX10_bestExchange 3 [] 58 [some (.ref 4), some (.int (nI hn)), some (.int (nI bn)), none, none, none, none, none] [.int 0, .ref 111, .ref (20 + 2 * hn), .ref 120] (tf_lx S f bn) rfl ⟨by decide, by decide, rfl⟩ ⟨trivial, ⟨by first | assumption | rfl | decide | omega | exact Nat.succ_ne_zero _, by first | assumption | rfl | decide | omega | exact Nat.succ_ne_zero _⟩⟩ ?_
  refine tf_cV hx ftX10_bestExchange (nx := 61) (As := [.ref (20 + 2 * hn), .ref 111, .int 0]) (rest := []) (st2 := [.int (nI (tf_tm f hn bn 0))]) ((by have h := t_timeBy (N := N) (S := (tf_lx S f bn)) (K := tf_kk f bn) (L := tf_ll f hn) (H := tf_hu f) (t := 0) (nw_K hg) (fun i _ => tf_kk_le f bn i) (hdn hhn).1 (nw_H hS2 hhn) hk1 (nw_H4x hH) (fun i _ => tf_hu_le f i) (nw_l9 hg hhn) (by decide); rw [← tf_tm_tS hg] at h; exact h)) rfl lX10_215 (by first | assumption | rfl | decide) rfl ⟨rfl, by decide, by decide, by decide, rfl, rfl⟩ ?_
  refine tf_go hx ftX10_bestExchange 5 [] 69 [some (.ref 4), some (.int (nI hn)), some (.int (nI bn)), some (.int (nI (tf_tm f hn bn 0))), some (.int (-9)), some (.int 0), none, none] [] (tf_lx S f bn) rfl ⟨by decide, by decide, rfl⟩ trivial ?_
  unfold tf_be at hR
  refine tf_fgt [some (.ref 4), some (.int (nI hn)), some (.int (nI bn)), some (.int (nI (tf_tm f hn bn 0))), some (.int (-9)), some (.int 0), none, none] (by simp [tf_lss]) ?_
  have loop : ∀ (m k : Nat) (q : Nat × Nat), k + m = 30 → ((tf_b1 f hn bn m k q) = tf_b1 f hn bn 30 0 (3000, tf_tm f hn bn 0)) → (q.2 ≤ tf_tm f hn bn 0) → (q.1 = 3000 ∨ q.1 < 3000) → tf_K x 0 0 (tf_GG N) (tf_lx S f bn) 69 [some (.ref 4), some (.int (nI hn)), some (.int (nI bn)), some (.int (nI q.2)), some (.int (tf_on 3000 q.1)), some (.int (nI k)), none, none] [] := by
    intro m
    induction m with
    | zero =>
      intro k q hk he hq2 hq1
      refine tf_go hx ftX10_bestExchange 2 [] 73 [some (.ref 4), some (.int (nI hn)), some (.int (nI bn)), some (.int (nI q.2)), some (.int (tf_on 3000 q.1)), some (.int (nI k)), none, none] [.int 30, .int (nI k)] (tf_lx S f bn) rfl ⟨by decide, by decide, rfl⟩ trivial ?_
      refine tf_go hx ftX10_bestExchange 2 [true] 172 [some (.ref 4), some (.int (nI hn)), some (.int (nI bn)), some (.int (nI q.2)), some (.int (tf_on 3000 q.1)), some (.int (nI k)), none, none] [.int (tf_on 3000 q.1)] (tf_lx S f bn) rfl ⟨by decide, by decide, rfl⟩ ⟨trivial, (tf_leT (a := 30) (b := k) (rfl : (30 : Int32) = nI 30) rfl (by omega) (by omega) (by omega))⟩ ?_
      exact tf_ret ftX10_bestExchange hR rfl ⟨by decide, by decide⟩ rfl rfl (by rw [← he]; rfl)
    | succ m ih =>
      intro k q hk he hq2 hq1
      refine tf_go hx ftX10_bestExchange 2 [] 73 [some (.ref 4), some (.int (nI hn)), some (.int (nI bn)), some (.int (nI q.2)), some (.int (tf_on 3000 q.1)), some (.int (nI k)), none, none] [.int 30, .int (nI k)] (tf_lx S f bn) rfl ⟨by decide, by decide, rfl⟩ trivial ?_
      refine tf_go hx ftX10_bestExchange 1 [false] 76 [some (.ref 4), some (.int (nI hn)), some (.int (nI bn)), some (.int (nI q.2)), some (.int (tf_on 3000 q.1)), some (.int (nI k)), none, none] [] (tf_lx S f bn) rfl ⟨by decide, by decide, rfl⟩ ⟨trivial, (tf_leF (a := 30) (b := k) (rfl : (30 : Int32) = nI 30) rfl (by omega) (by omega) (by omega))⟩ ?_
      refine tf_go hx ftX10_bestExchange 4 [] 82 [some (.ref 4), some (.int (nI hn)), some (.int (nI bn)), some (.int (nI q.2)), some (.int (tf_on 3000 q.1)), some (.int (nI k)), some (.int ((nI k) + 1)), none] [] (tf_lx S f bn) rfl ⟨by decide, by decide, rfl⟩ trivial ?_
      rw [show ((nI k) + 1) = nI (k + 1) from (tf_add (a := k) (b := 1) rfl (rfl : (1 : Int32) = nI 1))]
      rw [tf_b1_s] at he
      have inner : ∀ (i j : Nat) (r : Nat × Nat), j + i = 30 → tf_b2 f hn bn k i j r = tf_b2 f hn bn k (30 - (k + 1)) (k + 1) q → k < j → r.2 ≤ tf_tm f hn bn 0 → (r.1 = 3000 ∨ r.1 < 3000) → tf_K x 0 0 (tf_GG N) (tf_lx S f bn) 82 [some (.ref 4), some (.int (nI hn)), some (.int (nI bn)), some (.int (nI r.2)), some (.int (tf_on 3000 r.1)), some (.int (nI k)), some (.int (nI j)), none] [] := by
        intro i
        induction i with
        | zero =>
          intro j r hj hr hkj hr2 hr1
          refine tf_go hx ftX10_bestExchange 2 [] 86 [some (.ref 4), some (.int (nI hn)), some (.int (nI bn)), some (.int (nI r.2)), some (.int (tf_on 3000 r.1)), some (.int (nI k)), some (.int (nI j)), none] [.int 30, .int (nI j)] (tf_lx S f bn) rfl ⟨by decide, by decide, rfl⟩ trivial ?_
          refine tf_go hx ftX10_bestExchange 3 [true] 69 [some (.ref 4), some (.int (nI hn)), some (.int (nI bn)), some (.int (nI r.2)), some (.int (tf_on 3000 r.1)), some (.int ((nI k) + 1)), some (.int (nI j)), none] [] (tf_lx S f bn) rfl ⟨by decide, by decide, rfl⟩ ⟨trivial, (tf_leT (a := 30) (b := j) (rfl : (30 : Int32) = nI 30) rfl (by omega) (by omega) (by omega))⟩ ?_
          rw [show ((nI k) + 1) = nI (k + 1) from (tf_add (a := k) (b := 1) rfl (rfl : (1 : Int32) = nI 1))]
          refine tf_fgt [some (.ref 4), some (.int (nI hn)), some (.int (nI bn)), some (.int (nI r.2)), some (.int (tf_on 3000 r.1)), some (.int (nI (k + 1))), none, none] (by simp [tf_lss]) ?_
          exact ih (k + 1) r (by omega) (by rw [← he, ← hr]; rfl) hr2 hr1
        | succ i ihj =>
          intro j r hj hr hkj hr2 hr1
          rw [tf_b2_s, tf_b2_cl hg hbn (show k < 30 by omega) (show j < 30 by omega) (by omega) hr2] at hr
          refine tf_go hx ftX10_bestExchange 2 [] 86 [some (.ref 4), some (.int (nI hn)), some (.int (nI bn)), some (.int (nI r.2)), some (.int (tf_on 3000 r.1)), some (.int (nI k)), some (.int (nI j)), none] [.int 30, .int (nI j)] (tf_lx S f bn) rfl ⟨by decide, by decide, rfl⟩ trivial ?_
          refine tf_go hx ftX10_bestExchange 1 [false] 89 [some (.ref 4), some (.int (nI hn)), some (.int (nI bn)), some (.int (nI r.2)), some (.int (tf_on 3000 r.1)), some (.int (nI k)), some (.int (nI j)), none] [] (tf_lx S f bn) rfl ⟨by decide, by decide, rfl⟩ ⟨trivial, (tf_leF (a := 30) (b := j) (rfl : (30 : Int32) = nI 30) rfl (by omega) (by omega) (by omega))⟩ ?_
          refine tf_go hx ftX10_bestExchange 3 [] 95 [some (.ref 4), some (.int (nI hn)), some (.int (nI bn)), some (.int (nI r.2)), some (.int (tf_on 3000 r.1)), some (.int (nI k)), some (.int (nI j)), none] [.int (nI k), .ref 120] (tf_lx S f bn) rfl ⟨by decide, by decide, rfl⟩ ⟨trivial, ⟨by first | assumption | rfl | decide | omega | exact Nat.succ_ne_zero _, by first | assumption | rfl | decide | omega | exact Nat.succ_ne_zero _⟩⟩ ?_
          refine tf_cV hx ftX10_bestExchange (nx := 98) (As := [.int (nI k)]) (rest := []) (st2 := [.int (nI (if tf_us (tf_kk f bn) k (f 364) = true then 1 else 0))]) (t_uses hU (show k < 30 by omega)) rfl lX10_219 (by first | assumption | rfl | decide) rfl ⟨rfl, by decide, by decide, by decide, rfl, rfl⟩ ?_
          by_cases u1 : tf_us (tf_kk f bn) k (f 364) = true
          · rw [if_pos u1]
            refine tf_go hx ftX10_bestExchange 1 [true] 113 [some (.ref 4), some (.int (nI hn)), some (.int (nI bn)), some (.int (nI r.2)), some (.int (tf_on 3000 r.1)), some (.int (nI k)), some (.int (nI j)), none] [] (tf_lx S f bn) rfl ⟨by decide, by decide, rfl⟩ ⟨trivial, (by decide)⟩ ?_
            have tx := tf_tm_ex (h := hn) hg hbn (show k < 30 by omega) (show j < 30 by omega)
            have t1 := tf_tm_le (tf_ex_gd (x := k) (y := j) hg hbn (by omega) (by omega)) (b := bn) (t := 0) hhn
            have ar : tf_rf (tf_GG N) 19 (Int32.toNatClampNeg (nI hn)) = 20 + 2 * hn := by rw [tf_cl_nI (by omega)]; exact (hdn hhn).2.2
            have arn : tf_rf (tf_GG N) 19 (Int32.toNatClampNeg (nI hn)) ≠ 0 := by rw [ar]; omega
            refine tf_go hx ftX10_bestExchange 7 [] 126 [some (.ref 4), some (.int (nI hn)), some (.int (nI bn)), some (.int (nI r.2)), some (.int (tf_on 3000 r.1)), some (.int (nI k)), some (.int (nI j)), none] [.ref (tf_rf (tf_GG N) 19 (Int32.toNatClampNeg (nI hn))), .ref 120] (tf_lx S f bn) rfl ⟨by decide, by decide, rfl⟩ ⟨⟨⟨⟨trivial, ⟨by first | assumption | rfl | decide | omega | exact Nat.succ_ne_zero _, by first | assumption | rfl | decide | omega | exact Nat.succ_ne_zero _⟩⟩, ⟨by first | assumption | rfl | decide | omega | exact Nat.succ_ne_zero _, by first | assumption | rfl | decide | omega | exact Nat.succ_ne_zero _⟩⟩, ⟨by first | assumption | rfl | decide | omega | exact Nat.succ_ne_zero _, by first | assumption | rfl | decide | omega | exact Nat.succ_ne_zero _⟩⟩, ⟨by first | assumption | exact Or.inl rfl | exact Or.inr (Or.inl rfl) | exact Or.inr (Or.inr rfl) | omega, by exact tf_in (n := hn) (N := 4) rfl (by first | assumption | rfl) (by omega) (by decide), by first | assumption | rfl | decide | omega | exact Nat.succ_ne_zero _⟩⟩ ?_
            rw [ar]
            clear ar arn
            refine tf_go hx ftX10_bestExchange 4 [] 134 [some (.ref 4), some (.int (nI hn)), some (.int (nI bn)), some (.int (nI r.2)), some (.int (tf_on 3000 r.1)), some (.int (nI k)), some (.int (nI j)), none] [.int (nI j), .int (nI k), .ref 111, .ref (20 + 2 * hn), .ref 120] (tf_lx S f bn) rfl ⟨by decide, by decide, rfl⟩ ⟨trivial, ⟨by first | assumption | rfl | decide | omega | exact Nat.succ_ne_zero _, by first | assumption | rfl | decide | omega | exact Nat.succ_ne_zero _⟩⟩ ?_
            refine tf_cV hx ftX10_bestExchange (nx := 137) (As := [.ref (20 + 2 * hn), .ref 111, .int (nI k), .int (nI j)]) (rest := []) (st2 := [.int (nI (tf_tm (tf_ex f bn k j) hn bn 0))]) ((by have h := t_timeX (N := N) (S := (tf_lx S f bn)) (K := tf_kk f bn) (L := tf_ll f hn) (H := tf_hu f) (a := k) (c := j) (nw_K hg) (fun i _ => tf_kk_le f bn i) (hdn hhn).1 (nw_H hS2 hhn) hk1 (nw_H4x hH) (fun i _ => tf_hu_le f i) (nw_l9 hg hhn) (by omega) (by omega); rw [← tx] at h; exact h)) rfl lX10_222 (by first | assumption | rfl | decide) rfl ⟨rfl, by decide, by decide, by decide, rfl, rfl⟩ ?_
            clear tx
            refine tf_go hx ftX10_bestExchange 1 [] 139 [some (.ref 4), some (.int (nI hn)), some (.int (nI bn)), some (.int (nI r.2)), some (.int (tf_on 3000 r.1)), some (.int (nI k)), some (.int (nI j)), some (.int (nI (tf_tm (tf_ex f bn k j) hn bn 0)))] [] (tf_lx S f bn) rfl ⟨by decide, by decide, rfl⟩ trivial ?_
            refine tf_go hx ftX10_bestExchange 2 [] 142 [some (.ref 4), some (.int (nI hn)), some (.int (nI bn)), some (.int (nI r.2)), some (.int (tf_on 3000 r.1)), some (.int (nI k)), some (.int (nI j)), some (.int (nI (tf_tm (tf_ex f bn k j) hn bn 0)))] [.int (nI r.2), .int (nI (tf_tm (tf_ex f bn k j) hn bn 0))] (tf_lx S f bn) rfl ⟨by decide, by decide, rfl⟩ trivial ?_
            by_cases d2 : tf_tm (tf_ex f bn k j) hn bn 0 < r.2
            · rw [if_pos ⟨Or.inl u1, d2⟩] at hr
              refine tf_go hx ftX10_bestExchange 1 [false] 145 [some (.ref 4), some (.int (nI hn)), some (.int (nI bn)), some (.int (nI r.2)), some (.int (tf_on 3000 r.1)), some (.int (nI k)), some (.int (nI j)), some (.int (nI (tf_tm (tf_ex f bn k j) hn bn 0)))] [] (tf_lx S f bn) rfl ⟨by decide, by decide, rfl⟩ ⟨trivial, (tf_leF (a := r.2) (b := (tf_tm (tf_ex f bn k j) hn bn 0)) rfl rfl (by have := hb bn; omega) (by have := hb bn; omega) (by have := hb bn; omega))⟩ ?_
              refine tf_go hx ftX10_bestExchange 2 [] 148 [some (.ref 4), some (.int (nI hn)), some (.int (nI bn)), some (.int (nI (tf_tm (tf_ex f bn k j) hn bn 0))), some (.int (tf_on 3000 r.1)), some (.int (nI k)), some (.int (nI j)), some (.int (nI (tf_tm (tf_ex f bn k j) hn bn 0)))] [] (tf_lx S f bn) rfl ⟨by decide, by decide, rfl⟩ trivial ?_
              refine tf_go hx ftX10_bestExchange 3 [] 153 [some (.ref 4), some (.int (nI hn)), some (.int (nI bn)), some (.int (nI (tf_tm (tf_ex f bn k j) hn bn 0))), some (.int (tf_on 3000 r.1)), some (.int (nI k)), some (.int (nI j)), some (.int (nI (tf_tm (tf_ex f bn k j) hn bn 0)))] [.int (100 * (nI k))] (tf_lx S f bn) rfl ⟨by decide, by decide, rfl⟩ trivial ?_
              rw [show (100 * (nI k)) = nI (100 * k) from (tf_mul (a := 100) (b := k) (rfl : (100 : Int32) = nI 100) rfl)]
              refine tf_go hx ftX10_bestExchange 2 [] 156 [some (.ref 4), some (.int (nI hn)), some (.int (nI bn)), some (.int (nI (tf_tm (tf_ex f bn k j) hn bn 0))), some (.int (tf_on 3000 r.1)), some (.int (nI k)), some (.int (nI j)), some (.int (nI (tf_tm (tf_ex f bn k j) hn bn 0)))] [.int ((nI (100 * k)) + (nI j))] (tf_lx S f bn) rfl ⟨by decide, by decide, rfl⟩ trivial ?_
              rw [show ((nI (100 * k)) + (nI j)) = nI ((100 * k) + j) from (tf_add (a := (100 * k)) (b := j) rfl rfl)]
              refine tf_go hx ftX10_bestExchange 1 [] 158 [some (.ref 4), some (.int (nI hn)), some (.int (nI bn)), some (.int (nI (tf_tm (tf_ex f bn k j) hn bn 0))), some (.int (nI ((100 * k) + j))), some (.int (nI k)), some (.int (nI j)), some (.int (nI (tf_tm (tf_ex f bn k j) hn bn 0)))] [] (tf_lx S f bn) rfl ⟨by decide, by decide, rfl⟩ trivial ?_
              refine tf_go hx ftX10_bestExchange 2 [] 82 [some (.ref 4), some (.int (nI hn)), some (.int (nI bn)), some (.int (nI (tf_tm (tf_ex f bn k j) hn bn 0))), some (.int (nI ((100 * k) + j))), some (.int (nI k)), some (.int ((nI j) + 1)), some (.int (nI (tf_tm (tf_ex f bn k j) hn bn 0)))] [] (tf_lx S f bn) rfl ⟨by decide, by decide, rfl⟩ trivial ?_
              rw [show ((nI j) + 1) = nI (j + 1) from (tf_add (a := j) (b := 1) rfl (rfl : (1 : Int32) = nI 1))]
              refine tf_fgt [some (.ref 4), some (.int (nI hn)), some (.int (nI bn)), some (.int (nI (tf_tm (tf_ex f bn k j) hn bn 0))), some (.int (nI (100 * k + j))), some (.int (nI k)), some (.int (nI (j + 1))), none] (by simp [tf_lss]) ?_
              have h0 := ihj (j + 1) (100 * k + j, tf_tm (tf_ex f bn k j) hn bn 0) (by omega) hr (by omega) (Nat.le_of_lt (Nat.lt_of_lt_of_le d2 hr2)) (Or.inr (show 100 * k + j < 3000 by omega))
              rw [tf_on_y (show 100 * k + j < 3000 by omega)] at h0
              exact h0
            · refine tf_go hx ftX10_bestExchange 1 [true] 158 [some (.ref 4), some (.int (nI hn)), some (.int (nI bn)), some (.int (nI r.2)), some (.int (tf_on 3000 r.1)), some (.int (nI k)), some (.int (nI j)), some (.int (nI (tf_tm (tf_ex f bn k j) hn bn 0)))] [] (tf_lx S f bn) rfl ⟨by decide, by decide, rfl⟩ ⟨trivial, (tf_leT (a := r.2) (b := (tf_tm (tf_ex f bn k j) hn bn 0)) rfl rfl (by have := hb bn; omega) (by have := hb bn; omega) (by have := hb bn; omega))⟩ ?_
              rw [if_neg (fun h => d2 h.2)] at hr
              refine tf_go hx ftX10_bestExchange 2 [] 82 [some (.ref 4), some (.int (nI hn)), some (.int (nI bn)), some (.int (nI r.2)), some (.int (tf_on 3000 r.1)), some (.int (nI k)), some (.int ((nI j) + 1)), some (.int (nI (tf_tm (tf_ex f bn k j) hn bn 0)))] [] (tf_lx S f bn) rfl ⟨by decide, by decide, rfl⟩ trivial ?_
              rw [show ((nI j) + 1) = nI (j + 1) from (tf_add (a := j) (b := 1) rfl (rfl : (1 : Int32) = nI 1))]
              refine tf_fgt [some (.ref 4), some (.int (nI hn)), some (.int (nI bn)), some (.int (nI r.2)), some (.int (tf_on 3000 r.1)), some (.int (nI k)), some (.int (nI (j + 1))), none] (by simp [tf_lss]) ?_
              exact ihj (j + 1) r (by omega) hr (by omega) hr2 hr1
          · rw [if_neg u1]
            refine tf_go hx ftX10_bestExchange 1 [false] 101 [some (.ref 4), some (.int (nI hn)), some (.int (nI bn)), some (.int (nI r.2)), some (.int (tf_on 3000 r.1)), some (.int (nI k)), some (.int (nI j)), none] [] (tf_lx S f bn) rfl ⟨by decide, by decide, rfl⟩ ⟨trivial, (by decide)⟩ ?_
            refine tf_go hx ftX10_bestExchange 3 [] 107 [some (.ref 4), some (.int (nI hn)), some (.int (nI bn)), some (.int (nI r.2)), some (.int (tf_on 3000 r.1)), some (.int (nI k)), some (.int (nI j)), none] [.int (nI j), .ref 120] (tf_lx S f bn) rfl ⟨by decide, by decide, rfl⟩ ⟨trivial, ⟨by first | assumption | rfl | decide | omega | exact Nat.succ_ne_zero _, by first | assumption | rfl | decide | omega | exact Nat.succ_ne_zero _⟩⟩ ?_
            refine tf_cV hx ftX10_bestExchange (nx := 110) (As := [.int (nI j)]) (rest := []) (st2 := [.int (nI (if tf_us (tf_kk f bn) j (f 364) = true then 1 else 0))]) (t_uses hU (show j < 30 by omega)) rfl lX10_219 (by first | assumption | rfl | decide) rfl ⟨rfl, by decide, by decide, by decide, rfl, rfl⟩ ?_
            by_cases u2 : tf_us (tf_kk f bn) j (f 364) = true
            · rw [if_pos u2]
              refine tf_go hx ftX10_bestExchange 1 [false] 113 [some (.ref 4), some (.int (nI hn)), some (.int (nI bn)), some (.int (nI r.2)), some (.int (tf_on 3000 r.1)), some (.int (nI k)), some (.int (nI j)), none] [] (tf_lx S f bn) rfl ⟨by decide, by decide, rfl⟩ ⟨trivial, (by decide)⟩ ?_
              have tx := tf_tm_ex (h := hn) hg hbn (show k < 30 by omega) (show j < 30 by omega)
              have t1 := tf_tm_le (tf_ex_gd (x := k) (y := j) hg hbn (by omega) (by omega)) (b := bn) (t := 0) hhn
              have ar : tf_rf (tf_GG N) 19 (Int32.toNatClampNeg (nI hn)) = 20 + 2 * hn := by rw [tf_cl_nI (by omega)]; exact (hdn hhn).2.2
              have arn : tf_rf (tf_GG N) 19 (Int32.toNatClampNeg (nI hn)) ≠ 0 := by rw [ar]; omega
              refine tf_go hx ftX10_bestExchange 7 [] 126 [some (.ref 4), some (.int (nI hn)), some (.int (nI bn)), some (.int (nI r.2)), some (.int (tf_on 3000 r.1)), some (.int (nI k)), some (.int (nI j)), none] [.ref (tf_rf (tf_GG N) 19 (Int32.toNatClampNeg (nI hn))), .ref 120] (tf_lx S f bn) rfl ⟨by decide, by decide, rfl⟩ ⟨⟨⟨⟨trivial, ⟨by first | assumption | rfl | decide | omega | exact Nat.succ_ne_zero _, by first | assumption | rfl | decide | omega | exact Nat.succ_ne_zero _⟩⟩, ⟨by first | assumption | rfl | decide | omega | exact Nat.succ_ne_zero _, by first | assumption | rfl | decide | omega | exact Nat.succ_ne_zero _⟩⟩, ⟨by first | assumption | rfl | decide | omega | exact Nat.succ_ne_zero _, by first | assumption | rfl | decide | omega | exact Nat.succ_ne_zero _⟩⟩, ⟨by first | assumption | exact Or.inl rfl | exact Or.inr (Or.inl rfl) | exact Or.inr (Or.inr rfl) | omega, by exact tf_in (n := hn) (N := 4) rfl (by first | assumption | rfl) (by omega) (by decide), by first | assumption | rfl | decide | omega | exact Nat.succ_ne_zero _⟩⟩ ?_
              rw [ar]
              clear ar arn
              refine tf_go hx ftX10_bestExchange 4 [] 134 [some (.ref 4), some (.int (nI hn)), some (.int (nI bn)), some (.int (nI r.2)), some (.int (tf_on 3000 r.1)), some (.int (nI k)), some (.int (nI j)), none] [.int (nI j), .int (nI k), .ref 111, .ref (20 + 2 * hn), .ref 120] (tf_lx S f bn) rfl ⟨by decide, by decide, rfl⟩ ⟨trivial, ⟨by first | assumption | rfl | decide | omega | exact Nat.succ_ne_zero _, by first | assumption | rfl | decide | omega | exact Nat.succ_ne_zero _⟩⟩ ?_
              refine tf_cV hx ftX10_bestExchange (nx := 137) (As := [.ref (20 + 2 * hn), .ref 111, .int (nI k), .int (nI j)]) (rest := []) (st2 := [.int (nI (tf_tm (tf_ex f bn k j) hn bn 0))]) ((by have h := t_timeX (N := N) (S := (tf_lx S f bn)) (K := tf_kk f bn) (L := tf_ll f hn) (H := tf_hu f) (a := k) (c := j) (nw_K hg) (fun i _ => tf_kk_le f bn i) (hdn hhn).1 (nw_H hS2 hhn) hk1 (nw_H4x hH) (fun i _ => tf_hu_le f i) (nw_l9 hg hhn) (by omega) (by omega); rw [← tx] at h; exact h)) rfl lX10_222 (by first | assumption | rfl | decide) rfl ⟨rfl, by decide, by decide, by decide, rfl, rfl⟩ ?_
              clear tx
              refine tf_go hx ftX10_bestExchange 1 [] 139 [some (.ref 4), some (.int (nI hn)), some (.int (nI bn)), some (.int (nI r.2)), some (.int (tf_on 3000 r.1)), some (.int (nI k)), some (.int (nI j)), some (.int (nI (tf_tm (tf_ex f bn k j) hn bn 0)))] [] (tf_lx S f bn) rfl ⟨by decide, by decide, rfl⟩ trivial ?_
              refine tf_go hx ftX10_bestExchange 2 [] 142 [some (.ref 4), some (.int (nI hn)), some (.int (nI bn)), some (.int (nI r.2)), some (.int (tf_on 3000 r.1)), some (.int (nI k)), some (.int (nI j)), some (.int (nI (tf_tm (tf_ex f bn k j) hn bn 0)))] [.int (nI r.2), .int (nI (tf_tm (tf_ex f bn k j) hn bn 0))] (tf_lx S f bn) rfl ⟨by decide, by decide, rfl⟩ trivial ?_
              by_cases d2 : tf_tm (tf_ex f bn k j) hn bn 0 < r.2
              · rw [if_pos ⟨Or.inr u2, d2⟩] at hr
                refine tf_go hx ftX10_bestExchange 1 [false] 145 [some (.ref 4), some (.int (nI hn)), some (.int (nI bn)), some (.int (nI r.2)), some (.int (tf_on 3000 r.1)), some (.int (nI k)), some (.int (nI j)), some (.int (nI (tf_tm (tf_ex f bn k j) hn bn 0)))] [] (tf_lx S f bn) rfl ⟨by decide, by decide, rfl⟩ ⟨trivial, (tf_leF (a := r.2) (b := (tf_tm (tf_ex f bn k j) hn bn 0)) rfl rfl (by have := hb bn; omega) (by have := hb bn; omega) (by have := hb bn; omega))⟩ ?_
                refine tf_go hx ftX10_bestExchange 2 [] 148 [some (.ref 4), some (.int (nI hn)), some (.int (nI bn)), some (.int (nI (tf_tm (tf_ex f bn k j) hn bn 0))), some (.int (tf_on 3000 r.1)), some (.int (nI k)), some (.int (nI j)), some (.int (nI (tf_tm (tf_ex f bn k j) hn bn 0)))] [] (tf_lx S f bn) rfl ⟨by decide, by decide, rfl⟩ trivial ?_
                refine tf_go hx ftX10_bestExchange 3 [] 153 [some (.ref 4), some (.int (nI hn)), some (.int (nI bn)), some (.int (nI (tf_tm (tf_ex f bn k j) hn bn 0))), some (.int (tf_on 3000 r.1)), some (.int (nI k)), some (.int (nI j)), some (.int (nI (tf_tm (tf_ex f bn k j) hn bn 0)))] [.int (100 * (nI k))] (tf_lx S f bn) rfl ⟨by decide, by decide, rfl⟩ trivial ?_
                rw [show (100 * (nI k)) = nI (100 * k) from (tf_mul (a := 100) (b := k) (rfl : (100 : Int32) = nI 100) rfl)]
                refine tf_go hx ftX10_bestExchange 2 [] 156 [some (.ref 4), some (.int (nI hn)), some (.int (nI bn)), some (.int (nI (tf_tm (tf_ex f bn k j) hn bn 0))), some (.int (tf_on 3000 r.1)), some (.int (nI k)), some (.int (nI j)), some (.int (nI (tf_tm (tf_ex f bn k j) hn bn 0)))] [.int ((nI (100 * k)) + (nI j))] (tf_lx S f bn) rfl ⟨by decide, by decide, rfl⟩ trivial ?_
                rw [show ((nI (100 * k)) + (nI j)) = nI ((100 * k) + j) from (tf_add (a := (100 * k)) (b := j) rfl rfl)]
                refine tf_go hx ftX10_bestExchange 1 [] 158 [some (.ref 4), some (.int (nI hn)), some (.int (nI bn)), some (.int (nI (tf_tm (tf_ex f bn k j) hn bn 0))), some (.int (nI ((100 * k) + j))), some (.int (nI k)), some (.int (nI j)), some (.int (nI (tf_tm (tf_ex f bn k j) hn bn 0)))] [] (tf_lx S f bn) rfl ⟨by decide, by decide, rfl⟩ trivial ?_
                refine tf_go hx ftX10_bestExchange 2 [] 82 [some (.ref 4), some (.int (nI hn)), some (.int (nI bn)), some (.int (nI (tf_tm (tf_ex f bn k j) hn bn 0))), some (.int (nI ((100 * k) + j))), some (.int (nI k)), some (.int ((nI j) + 1)), some (.int (nI (tf_tm (tf_ex f bn k j) hn bn 0)))] [] (tf_lx S f bn) rfl ⟨by decide, by decide, rfl⟩ trivial ?_
                rw [show ((nI j) + 1) = nI (j + 1) from (tf_add (a := j) (b := 1) rfl (rfl : (1 : Int32) = nI 1))]
                refine tf_fgt [some (.ref 4), some (.int (nI hn)), some (.int (nI bn)), some (.int (nI (tf_tm (tf_ex f bn k j) hn bn 0))), some (.int (nI (100 * k + j))), some (.int (nI k)), some (.int (nI (j + 1))), none] (by simp [tf_lss]) ?_
                have h0 := ihj (j + 1) (100 * k + j, tf_tm (tf_ex f bn k j) hn bn 0) (by omega) hr (by omega) (Nat.le_of_lt (Nat.lt_of_lt_of_le d2 hr2)) (Or.inr (show 100 * k + j < 3000 by omega))
                rw [tf_on_y (show 100 * k + j < 3000 by omega)] at h0
                exact h0
              · refine tf_go hx ftX10_bestExchange 1 [true] 158 [some (.ref 4), some (.int (nI hn)), some (.int (nI bn)), some (.int (nI r.2)), some (.int (tf_on 3000 r.1)), some (.int (nI k)), some (.int (nI j)), some (.int (nI (tf_tm (tf_ex f bn k j) hn bn 0)))] [] (tf_lx S f bn) rfl ⟨by decide, by decide, rfl⟩ ⟨trivial, (tf_leT (a := r.2) (b := (tf_tm (tf_ex f bn k j) hn bn 0)) rfl rfl (by have := hb bn; omega) (by have := hb bn; omega) (by have := hb bn; omega))⟩ ?_
                rw [if_neg (fun h => d2 h.2)] at hr
                refine tf_go hx ftX10_bestExchange 2 [] 82 [some (.ref 4), some (.int (nI hn)), some (.int (nI bn)), some (.int (nI r.2)), some (.int (tf_on 3000 r.1)), some (.int (nI k)), some (.int ((nI j) + 1)), some (.int (nI (tf_tm (tf_ex f bn k j) hn bn 0)))] [] (tf_lx S f bn) rfl ⟨by decide, by decide, rfl⟩ trivial ?_
                rw [show ((nI j) + 1) = nI (j + 1) from (tf_add (a := j) (b := 1) rfl (rfl : (1 : Int32) = nI 1))]
                refine tf_fgt [some (.ref 4), some (.int (nI hn)), some (.int (nI bn)), some (.int (nI r.2)), some (.int (tf_on 3000 r.1)), some (.int (nI k)), some (.int (nI (j + 1))), none] (by simp [tf_lss]) ?_
                exact ihj (j + 1) r (by omega) hr (by omega) hr2 hr1
            · rw [if_neg u2]
              refine tf_go hx ftX10_bestExchange 1 [true] 158 [some (.ref 4), some (.int (nI hn)), some (.int (nI bn)), some (.int (nI r.2)), some (.int (tf_on 3000 r.1)), some (.int (nI k)), some (.int (nI j)), none] [] (tf_lx S f bn) rfl ⟨by decide, by decide, rfl⟩ ⟨trivial, rfl⟩ ?_
              rw [if_neg (fun h => by rcases h.1 with h | h; exact u1 h; exact u2 h)] at hr
              refine tf_go hx ftX10_bestExchange 2 [] 82 [some (.ref 4), some (.int (nI hn)), some (.int (nI bn)), some (.int (nI r.2)), some (.int (tf_on 3000 r.1)), some (.int (nI k)), some (.int ((nI j) + 1)), none] [] (tf_lx S f bn) rfl ⟨by decide, by decide, rfl⟩ trivial ?_
              rw [show ((nI j) + 1) = nI (j + 1) from (tf_add (a := j) (b := 1) rfl (rfl : (1 : Int32) = nI 1))]
              refine tf_fgt [some (.ref 4), some (.int (nI hn)), some (.int (nI bn)), some (.int (nI r.2)), some (.int (tf_on 3000 r.1)), some (.int (nI k)), some (.int (nI (j + 1))), none] (by simp [tf_lss]) ?_
              exact ihj (j + 1) r (by omega) hr (by omega) hr2 hr1
      refine tf_fgt [some (.ref 4), some (.int (nI hn)), some (.int (nI bn)), some (.int (nI q.2)), some (.int (tf_on 3000 q.1)), some (.int (nI k)), some (.int (nI (k + 1))), none] (by simp [tf_lss]) ?_
      exact inner (30 - (k + 1)) (k + 1) q (by omega) rfl (by omega) hq2 hq1
  exact loop 30 0 (3000, tf_tm f hn bn 0) rfl rfl (Nat.le_refl _) (Or.inl rfl)

/-- the HAND that is nearest, as the class looks for it -/
def tf_cz (F : Nat → Nat) : Nat → Nat → Int32 → Nat → Int32
  | 0, _, q, _ => q
  | m + 1, h, q, l => if F h < l then tf_cz F m (h + 1) (nI h) (F h) else if F h = l then tf_cz F m (h + 1) (-9) l else tf_cz F m (h + 1) q l
theorem tf_cz_s {F : Nat → Nat} {m h l : Nat} {q : Int32} : tf_cz F (m + 1) h q l = if F h < l then tf_cz F m (h + 1) (nI h) (F h) else if F h = l then tf_cz F m (h + 1) (-9) l else tf_cz F m (h + 1) q l := rfl

set_option maxHeartbeats 1000000 in
theorem n_near {N : Nat} {S : tf_Sg} {f : Nat → Nat} {bn : Nat} (hS : tf_st S 5 f) (h1j : ∀ j, j < 10 → S 1 j = nI (tf_fi j 0)) (hg : tf_gd f) (hb : ∀ k, f k < 10000) (hK : tf_sV (tf_GG N) S 121 40 (f 364) (fun j => tf_on 30 (tf_kk f bn j))) : tf_Fn mX10_handNearest 7 0 0 (tf_GG N) S [.ref 4] (tf_GG N) S (some (.int (tf_cz (fun h => tf_fa f h bn) 3 1 0 (tf_fa f 0 bn)))) := by
  have g40 := hg.1.1
  have g67 := hg.1.2.2.2
  refine tf_Fn_of (own := RX10) false ⟨by decide, rfl, by decide⟩ (Nat.le_of_ble_eq_true rfl) trivial (fun x hx hR => ?_)
  show tf_K x 0 0 (tf_GG N) S 0 [some (.ref 4), none, none, none, none] []
  refine tf_go hx ftX10_handNearest 2 [] 2 [some (.ref 4), some (.int 0), none, none, none] [] S rfl ⟨by decide, by decide, rfl⟩ trivial ?_
  have hk1 : tf_k1 (tf_GG N) S := tf_k1_of h1j
  have fl : ∀ h, h < 4 → tf_fa f h bn ≤ 2000000 := fun h hh => tf_fa_le hg hb hh
  have far : ∀ h, h < 4 → tf_Fn mX8_farFrom 6 0 0 (tf_GG N) S [.ref 120, .ref 55, .ref (20 + 2 * h)] (tf_GG N) S (some (.int (nI (tf_fa f h bn)))) := fun h hh => t_far hK hg hb (nw_R hS hg) (hdn hh).1 (nw_H hS hh) hk1 hh
  refine tf_go hx ftX10_handNearest 5 [] 13 [some (.ref 4), some (.int 0), none, none, none] [.ref 55, .ref 120] S rfl ⟨by decide, by decide, rfl⟩ ⟨⟨⟨trivial, ⟨by first | assumption | rfl | decide | omega | exact Nat.succ_ne_zero _, by first | assumption | rfl | decide | omega | exact Nat.succ_ne_zero _⟩⟩, ⟨by first | assumption | rfl | decide | omega | exact Nat.succ_ne_zero _, by first | assumption | rfl | decide | omega | exact Nat.succ_ne_zero _⟩⟩, ⟨by first | assumption | rfl | decide | omega | exact Nat.succ_ne_zero _, by first | assumption | rfl | decide | omega | exact Nat.succ_ne_zero _⟩⟩ ?_
  refine tf_go hx ftX10_handNearest 5 [] 22 [some (.ref 4), some (.int 0), none, none, none] [.ref (tf_rf (tf_GG N) 19 (Int32.toNatClampNeg 0)), .ref 55, .ref 120] S rfl ⟨by decide, by decide, rfl⟩ ⟨⟨⟨trivial, ⟨by first | assumption | rfl | decide | omega | exact Nat.succ_ne_zero _, by first | assumption | rfl | decide | omega | exact Nat.succ_ne_zero _⟩⟩, ⟨by first | assumption | rfl | decide | omega | exact Nat.succ_ne_zero _, by first | assumption | rfl | decide | omega | exact Nat.succ_ne_zero _⟩⟩, ⟨by first | assumption | exact Or.inl rfl | exact Or.inr (Or.inl rfl) | exact Or.inr (Or.inr rfl) | omega, by exact tf_in (n := 0) (N := 4) (rfl : (0 : Int32) = nI 0) (by first | assumption | rfl) (by omega) (by decide), by first | assumption | rfl | decide | omega | exact Nat.succ_ne_zero _⟩⟩ ?_
  refine tf_cV hx ftX10_handNearest (nx := 25) (As := [.ref 55, .ref (tf_rf (tf_GG N) 19 (Int32.toNatClampNeg 0))]) (rest := []) (st2 := [.int (nI (tf_fa f 0 bn))]) (far 0 (by decide)) rfl lX10_187 (by first | assumption | rfl | decide) rfl ⟨rfl, by decide, by decide, by decide, rfl, rfl⟩ ?_
  refine tf_go hx ftX10_handNearest 3 [] 28 [some (.ref 4), some (.int 0), some (.int (nI (tf_fa f 0 bn))), some (.int 1), none] [] S rfl ⟨by decide, by decide, rfl⟩ trivial ?_
  refine tf_fgt [some (.ref 4), some (.int 0), some (.int (nI (tf_fa f 0 bn))), some (.int 1), none] (by simp [tf_lss]) ?_
  have loop : ∀ (m k : Nat) (q : Int32) (l : Nat), k + m = 4 → (tf_cz (fun h => tf_fa f h bn) m k q l = tf_cz (fun h => tf_fa f h bn) 3 1 0 (tf_fa f 0 bn)) → (l ≤ 2000000) → tf_K x 0 0 (tf_GG N) S 28 [some (.ref 4), some (.int q), some (.int (nI l)), some (.int (nI k)), none] [] := by
    intro m
    induction m with
    | zero =>
      intro k q l hk he hll
      refine tf_go hx ftX10_handNearest 2 [] 30 [some (.ref 4), some (.int q), some (.int (nI l)), some (.int (nI k)), none] [.int 4, .int (nI k)] S rfl ⟨by decide, by decide, rfl⟩ trivial ?_
      refine tf_go hx ftX10_handNearest 2 [true] 88 [some (.ref 4), some (.int q), some (.int (nI l)), some (.int (nI k)), none] [.int q] S rfl ⟨by decide, by decide, rfl⟩ ⟨trivial, (tf_leT (a := 4) (b := k) (rfl : (4 : Int32) = nI 4) rfl (by omega) (by omega) (by omega))⟩ ?_
      exact tf_ret ftX10_handNearest hR rfl ⟨by decide, by decide⟩ rfl rfl (by rw [← he]; rfl)
    | succ m ih =>
      intro k q l hk he hll
      rw [tf_cz_s] at he
      have f1 := fl k (by omega)
      refine tf_go hx ftX10_handNearest 2 [] 30 [some (.ref 4), some (.int q), some (.int (nI l)), some (.int (nI k)), none] [.int 4, .int (nI k)] S rfl ⟨by decide, by decide, rfl⟩ trivial ?_
      refine tf_go hx ftX10_handNearest 1 [false] 33 [some (.ref 4), some (.int q), some (.int (nI l)), some (.int (nI k)), none] [] S rfl ⟨by decide, by decide, rfl⟩ ⟨trivial, (tf_leF (a := 4) (b := k) (rfl : (4 : Int32) = nI 4) rfl (by omega) (by omega) (by omega))⟩ ?_
      have hk4 : k < 4 := by omega
      refine tf_go hx ftX10_handNearest 5 [] 44 [some (.ref 4), some (.int q), some (.int (nI l)), some (.int (nI k)), none] [.ref 55, .ref 120] S rfl ⟨by decide, by decide, rfl⟩ ⟨⟨⟨trivial, ⟨by first | assumption | rfl | decide | omega | exact Nat.succ_ne_zero _, by first | assumption | rfl | decide | omega | exact Nat.succ_ne_zero _⟩⟩, ⟨by first | assumption | rfl | decide | omega | exact Nat.succ_ne_zero _, by first | assumption | rfl | decide | omega | exact Nat.succ_ne_zero _⟩⟩, ⟨by first | assumption | rfl | decide | omega | exact Nat.succ_ne_zero _, by first | assumption | rfl | decide | omega | exact Nat.succ_ne_zero _⟩⟩ ?_
      have ar : tf_rf (tf_GG N) 19 (Int32.toNatClampNeg (nI k)) = 20 + 2 * k := by rw [tf_cl_nI (by omega)]; exact (hdn hk4).2.2
      have arn : tf_rf (tf_GG N) 19 (Int32.toNatClampNeg (nI k)) ≠ 0 := by rw [ar]; omega
      refine tf_go hx ftX10_handNearest 5 [] 53 [some (.ref 4), some (.int q), some (.int (nI l)), some (.int (nI k)), none] [.ref (tf_rf (tf_GG N) 19 (Int32.toNatClampNeg (nI k))), .ref 55, .ref 120] S rfl ⟨by decide, by decide, rfl⟩ ⟨⟨⟨trivial, ⟨by first | assumption | rfl | decide | omega | exact Nat.succ_ne_zero _, by first | assumption | rfl | decide | omega | exact Nat.succ_ne_zero _⟩⟩, ⟨by first | assumption | rfl | decide | omega | exact Nat.succ_ne_zero _, by first | assumption | rfl | decide | omega | exact Nat.succ_ne_zero _⟩⟩, ⟨by first | assumption | exact Or.inl rfl | exact Or.inr (Or.inl rfl) | exact Or.inr (Or.inr rfl) | omega, by exact tf_in (n := k) (N := 4) rfl (by first | assumption | rfl) (by omega) (by decide), by first | assumption | rfl | decide | omega | exact Nat.succ_ne_zero _⟩⟩ ?_
      rw [ar]
      clear ar arn
      refine tf_cV hx ftX10_handNearest (nx := 56) (As := [.ref 55, .ref (20 + 2 * k)]) (rest := []) (st2 := [.int (nI (tf_fa f k bn))]) (far k hk4) rfl lX10_187 (by first | assumption | rfl | decide) rfl ⟨rfl, by decide, by decide, by decide, rfl, rfl⟩ ?_
      refine tf_go hx ftX10_handNearest 1 [] 58 [some (.ref 4), some (.int q), some (.int (nI l)), some (.int (nI k)), some (.int (nI (tf_fa f k bn)))] [] S rfl ⟨by decide, by decide, rfl⟩ trivial ?_
      refine tf_go hx ftX10_handNearest 2 [] 61 [some (.ref 4), some (.int q), some (.int (nI l)), some (.int (nI k)), some (.int (nI (tf_fa f k bn)))] [.int (nI l), .int (nI (tf_fa f k bn))] S rfl ⟨by decide, by decide, rfl⟩ trivial ?_
      generalize tf_fa f k bn = v at *
      by_cases e1 : v < l
      · rw [if_pos e1] at he
        refine tf_go hx ftX10_handNearest 8 [false] 28 [some (.ref 4), some (.int (nI k)), some (.int (nI v)), some (.int ((nI k) + 1)), some (.int (nI v))] [] S rfl ⟨by decide, by decide, rfl⟩ ⟨trivial, (tf_leF (a := l) (b := v) rfl rfl (by omega) (by omega) (by omega))⟩ ?_
        rw [show ((nI k) + 1) = nI (k + 1) from (tf_add (a := k) (b := 1) rfl (rfl : (1 : Int32) = nI 1))]
        refine tf_fgt [some (.ref 4), some (.int (nI k)), some (.int (nI v)), some (.int (nI (k + 1))), none] (by simp [tf_lss]) ?_
        exact ih (k + 1) (nI k) v (by omega) he (by omega)
      · rw [if_neg e1] at he
        refine tf_go hx ftX10_handNearest 1 [true] 72 [some (.ref 4), some (.int q), some (.int (nI l)), some (.int (nI k)), some (.int (nI v))] [] S rfl ⟨by decide, by decide, rfl⟩ ⟨trivial, (tf_leT (a := l) (b := v) rfl rfl (by omega) (by omega) (by omega))⟩ ?_
        refine tf_go hx ftX10_handNearest 2 [] 75 [some (.ref 4), some (.int q), some (.int (nI l)), some (.int (nI k)), some (.int (nI v))] [.int (nI l), .int (nI v)] S rfl ⟨by decide, by decide, rfl⟩ trivial ?_
        by_cases e2 : v = l
        · rw [if_pos e2] at he
          refine tf_go hx ftX10_handNearest 5 [false] 28 [some (.ref 4), some (.int (-9)), some (.int (nI l)), some (.int ((nI k) + 1)), some (.int (nI v))] [] S rfl ⟨by decide, by decide, rfl⟩ ⟨trivial, (tf_neF (a := v) (b := l) rfl rfl (by omega))⟩ ?_
          rw [show ((nI k) + 1) = nI (k + 1) from (tf_add (a := k) (b := 1) rfl (rfl : (1 : Int32) = nI 1))]
          refine tf_fgt [some (.ref 4), some (.int (-9)), some (.int (nI l)), some (.int (nI (k + 1))), none] (by simp [tf_lss]) ?_
          exact ih (k + 1) (-9) l (by omega) he (by omega)
        · rw [if_neg e2] at he
          refine tf_go hx ftX10_handNearest 3 [true] 28 [some (.ref 4), some (.int q), some (.int (nI l)), some (.int ((nI k) + 1)), some (.int (nI v))] [] S rfl ⟨by decide, by decide, rfl⟩ ⟨trivial, (tf_eqF (a := v) (b := l) rfl rfl (by omega) (by omega) (by omega))⟩ ?_
          rw [show ((nI k) + 1) = nI (k + 1) from (tf_add (a := k) (b := 1) rfl (rfl : (1 : Int32) = nI 1))]
          refine tf_fgt [some (.ref 4), some (.int q), some (.int (nI l)), some (.int (nI (k + 1))), none] (by simp [tf_lss]) ?_
          exact ih (k + 1) q l (by omega) he (by omega)
  exact loop 3 1 0 (tf_fa f 0 bn) rfl rfl (fl 0 (by decide))

set_option maxHeartbeats 1000000 in
theorem n_pace {N : Nat} {S : tf_Sg} {f : Nat → Nat} {v p d : Nat} (hS : tf_st S 5 f) (h1j : ∀ j, j < 10 → S 1 j = nI (tf_fi j 0)) (hg : tf_gd f) (hb : ∀ k, f k < 10000) (hv : v ≤ 480000) (hp1 : 1 ≤ p) (hp9 : p ≤ 9) (hd9 : d ≤ 9999) : tf_Fn mX10_allAtPace 2 0 0 (tf_GG N) S [.ref 4, .int (nI v), .int (nI p), .int (nI d)] (tf_GG N) S (some (.int (nI (v * 10 / (10 + p) + f 364 * p * p / 100 * d)))) := by
  have g40 := hg.1.1
  have g67 := hg.1.2.2.2
  refine tf_Fn_of (own := RX10) false ⟨by decide, rfl, by decide⟩ (Nat.le_of_ble_eq_true rfl) trivial (fun x hx hR => ?_)
  show tf_K x 0 0 (tf_GG N) S 0 [some (.ref 4), some (.int (nI v)), some (.int (nI p)), some (.int (nI d)), none] []
  have q1 := Nat.mul_le_mul g40 hp9
  have q2 := Nat.mul_le_mul q1 hp9
  have q3 := Nat.mul_le_mul (show f 364 * p * p / 100 ≤ 32 by omega) hd9
  have q4 : v * 10 / (10 + p) ≤ 480000 := by refine Nat.le_trans (Nat.div_le_div_left (show 10 ≤ 10 + p by omega) (by decide)) ?_; omega
  refine tf_go hx ftX10_allAtPace 2 [] 2 [some (.ref 4), some (.int (nI v)), some (.int (nI p)), some (.int (nI d)), none] [.int 1, .int (nI p)] S rfl ⟨by decide, by decide, rfl⟩ trivial ?_
  refine tf_go hx ftX10_allAtPace 1 [false] 5 [some (.ref 4), some (.int (nI v)), some (.int (nI p)), some (.int (nI d)), none] [] S rfl ⟨by decide, by decide, rfl⟩ ⟨trivial, (tf_ltF (a := p) (b := 1) rfl (rfl : (1 : Int32) = nI 1) (by omega) (by omega) (by omega))⟩ ?_
  refine tf_go hx ftX10_allAtPace 2 [] 8 [some (.ref 4), some (.int (nI v)), some (.int (nI p)), some (.int (nI d)), none] [.int 9, .int (nI p)] S rfl ⟨by decide, by decide, rfl⟩ trivial ?_
  refine tf_go hx ftX10_allAtPace 1 [true] 14 [some (.ref 4), some (.int (nI v)), some (.int (nI p)), some (.int (nI d)), none] [] S rfl ⟨by decide, by decide, rfl⟩ ⟨trivial, (tf_leT (a := p) (b := 9) rfl (rfl : (9 : Int32) = nI 9) (by omega) (by omega) (by omega))⟩ ?_
  refine tf_go hx ftX10_allAtPace 3 [] 21 [some (.ref 4), some (.int (nI v)), some (.int (nI p)), some (.int (nI d)), none] [.ref 28] S rfl ⟨by decide, by decide, rfl⟩ ⟨⟨trivial, ⟨by first | assumption | rfl | decide | omega | exact Nat.succ_ne_zero _, by first | assumption | rfl | decide | omega | exact Nat.succ_ne_zero _⟩⟩, ⟨by first | assumption | rfl | decide | omega | exact Nat.succ_ne_zero _, by first | assumption | rfl | decide | omega | exact Nat.succ_ne_zero _⟩⟩ ?_
  refine tf_cV hx ftX10_allAtPace (nx := 24) (As := []) (rest := []) (st2 := [.int (nI (f 364))]) (v_size (nw_M hS hg)) rfl lX10_54 (by first | assumption | rfl | decide) rfl ⟨rfl, by decide, by decide, by decide, rfl, rfl⟩ ?_
  refine tf_go hx ftX10_allAtPace 2 [] 26 [some (.ref 4), some (.int (nI v)), some (.int (nI p)), some (.int (nI d)), none] [.int ((nI (f 364)) * (nI p))] S rfl ⟨by decide, by decide, rfl⟩ trivial ?_
  rw [show ((nI (f 364)) * (nI p)) = nI ((f 364) * p) from (tf_mul (a := (f 364)) (b := p) rfl rfl)]
  refine tf_go hx ftX10_allAtPace 2 [] 28 [some (.ref 4), some (.int (nI v)), some (.int (nI p)), some (.int (nI d)), none] [.int ((nI ((f 364) * p)) * (nI p))] S rfl ⟨by decide, by decide, rfl⟩ trivial ?_
  rw [show ((nI ((f 364) * p)) * (nI p)) = nI (((f 364) * p) * p) from (tf_mul (a := ((f 364) * p)) (b := p) rfl rfl)]
  refine tf_go hx ftX10_allAtPace 2 [] 31 [some (.ref 4), some (.int (nI v)), some (.int (nI p)), some (.int (nI d)), none] [.int ((nI (((f 364) * p) * p)) / 100)] S rfl ⟨by decide, by decide, rfl⟩ ⟨trivial, (by decide)⟩ ?_
  rw [show ((nI (((f 364) * p) * p)) / 100) = nI ((((f 364) * p) * p) / 100) from (tf_div (a := (((f 364) * p) * p)) (d := 100) rfl (rfl : (100 : Int32) = nI 100) (by have := hb 364; omega) (by omega) (by omega))]
  refine tf_go hx ftX10_allAtPace 1 [] 33 [some (.ref 4), some (.int (nI v)), some (.int (nI p)), some (.int (nI d)), some (.int (nI ((((f 364) * p) * p) / 100)))] [] S rfl ⟨by decide, by decide, rfl⟩ trivial ?_
  refine tf_go hx ftX10_allAtPace 3 [] 37 [some (.ref 4), some (.int (nI v)), some (.int (nI p)), some (.int (nI d)), some (.int (nI ((((f 364) * p) * p) / 100)))] [.int ((nI v) * 10)] S rfl ⟨by decide, by decide, rfl⟩ trivial ?_
  rw [show ((nI v) * 10) = nI (v * 10) from (tf_mul (a := v) (b := 10) rfl (rfl : (10 : Int32) = nI 10))]
  refine tf_go hx ftX10_allAtPace 3 [] 41 [some (.ref 4), some (.int (nI v)), some (.int (nI p)), some (.int (nI d)), some (.int (nI ((((f 364) * p) * p) / 100)))] [.int (10 + (nI p)), .int (nI (v * 10))] S rfl ⟨by decide, by decide, rfl⟩ trivial ?_
  rw [show (10 + (nI p)) = nI (10 + p) from (tf_add (a := 10) (b := p) (rfl : (10 : Int32) = nI 10) rfl)]
  refine tf_go hx ftX10_allAtPace 1 [] 42 [some (.ref 4), some (.int (nI v)), some (.int (nI p)), some (.int (nI d)), some (.int (nI ((((f 364) * p) * p) / 100)))] [.int ((nI (v * 10)) / (nI (10 + p)))] S rfl ⟨by decide, by decide, rfl⟩ ⟨trivial, (tf_eqF (a := 10 + p) (b := 0) rfl rfl (by omega) (by omega) (by omega))⟩ ?_
  rw [show ((nI (v * 10)) / (nI (10 + p))) = nI ((v * 10) / (10 + p)) from (tf_div (a := (v * 10)) (d := (10 + p)) rfl rfl (by omega) (by omega) (by omega))]
  refine tf_go hx ftX10_allAtPace 3 [] 46 [some (.ref 4), some (.int (nI v)), some (.int (nI p)), some (.int (nI d)), some (.int (nI ((((f 364) * p) * p) / 100)))] [.int ((nI ((((f 364) * p) * p) / 100)) * (nI d)), .int (nI ((v * 10) / (10 + p)))] S rfl ⟨by decide, by decide, rfl⟩ trivial ?_
  rw [show ((nI ((((f 364) * p) * p) / 100)) * (nI d)) = nI (((((f 364) * p) * p) / 100) * d) from (tf_mul (a := ((((f 364) * p) * p) / 100)) (b := d) rfl rfl)]
  refine tf_go hx ftX10_allAtPace 1 [] 47 [some (.ref 4), some (.int (nI v)), some (.int (nI p)), some (.int (nI d)), some (.int (nI ((((f 364) * p) * p) / 100)))] [.int ((nI ((v * 10) / (10 + p))) + (nI (((((f 364) * p) * p) / 100) * d)))] S rfl ⟨by decide, by decide, rfl⟩ trivial ?_
  rw [show ((nI ((v * 10) / (10 + p))) + (nI (((((f 364) * p) * p) / 100) * d))) = nI (((v * 10) / (10 + p)) + (((((f 364) * p) * p) / 100) * d)) from (tf_add (a := ((v * 10) / (10 + p))) (b := (((((f 364) * p) * p) / 100) * d)) rfl rfl)]
  exact tf_ret ftX10_allAtPace hR rfl ⟨by decide, by decide⟩ rfl rfl rfl

set_option maxHeartbeats 1000000 in
theorem n_ref1 {N : Nat} {S : tf_Sg}  : tf_Fn mX10_refuse 1 0 0 (tf_GG N) S [.ref 4, .int (-1)] (tf_GG N) (tf_set S 124 1 (S 124 1 + 1)) (some (.int (-1))) := by
  refine tf_Fn_of (own := RX10) false ⟨by decide, rfl, by decide⟩ (Nat.le_of_ble_eq_true rfl) trivial (fun x hx hR => ?_)
  show tf_K x 0 0 (tf_GG N) S 0 [some (.ref 4), some (.int (-1))] []
  refine tf_go hx ftX10_refuse 5 [false, false] 10 [some (.ref 4), some (.int (-1))] [] S rfl ⟨by decide, by decide, rfl⟩ ⟨⟨trivial, (by decide)⟩, (by decide)⟩ ?_
  refine tf_go hx ftX10_refuse 4 [] 16 [some (.ref 4), some (.int (-1))] [.int (-(-1)), .ref 124] S rfl ⟨by decide, by decide, rfl⟩ ⟨trivial, ⟨by first | assumption | rfl | decide | omega | exact Nat.succ_ne_zero _, by first | assumption | rfl | decide | omega | exact Nat.succ_ne_zero _⟩⟩ ?_
  refine tf_go hx ftX10_refuse 2 [] 18 [some (.ref 4), some (.int (-1))] [.int (S 124 (Int32.toNatClampNeg (-(-1)))), .int (-(-1)), .ref 124] S rfl ⟨by decide, by decide, rfl⟩ ⟨trivial, ⟨Or.inl (by first | assumption | rfl | decide | omega | exact Nat.succ_ne_zero _), (by show vp_in (-(-1)) 7; unfold vp_in; decide)⟩⟩ ?_
  refine tf_go hx ftX10_refuse 2 [] 20 [some (.ref 4), some (.int (-1))] [.int ((S 124 (Int32.toNatClampNeg (-(-1)))) + 1), .int (-(-1)), .ref 124] S rfl ⟨by decide, by decide, rfl⟩ trivial ?_
  refine tf_go hx ftX10_refuse 1 [] 21 [some (.ref 4), some (.int (-1))] [] (tf_set S 124 (Int32.toNatClampNeg (-(-1))) ((S 124 (Int32.toNatClampNeg (-(-1)))) + 1)) rfl ⟨by decide, by decide, rfl⟩ ⟨trivial, ⟨by first | assumption | rfl | decide | omega | exact Nat.succ_ne_zero _, (by show vp_in (-(-1)) 7; unfold vp_in; decide)⟩⟩ ?_
  refine tf_go hx ftX10_refuse 1 [] 22 [some (.ref 4), some (.int (-1))] [.int (-1)] (tf_set S 124 (Int32.toNatClampNeg (-(-1))) ((S 124 (Int32.toNatClampNeg (-(-1)))) + 1)) rfl ⟨by decide, by decide, rfl⟩ trivial ?_
  exact tf_ret ftX10_refuse hR rfl ⟨by decide, by decide⟩ rfl rfl rfl

set_option maxHeartbeats 1000000 in
theorem n_ref2 {N : Nat} {S : tf_Sg}  : tf_Fn mX10_refuse 1 0 0 (tf_GG N) S [.ref 4, .int (-2)] (tf_GG N) (tf_set S 124 2 (S 124 2 + 1)) (some (.int (-2))) := by
  refine tf_Fn_of (own := RX10) false ⟨by decide, rfl, by decide⟩ (Nat.le_of_ble_eq_true rfl) trivial (fun x hx hR => ?_)
  show tf_K x 0 0 (tf_GG N) S 0 [some (.ref 4), some (.int (-2))] []
  refine tf_go hx ftX10_refuse 5 [false, false] 10 [some (.ref 4), some (.int (-2))] [] S rfl ⟨by decide, by decide, rfl⟩ ⟨⟨trivial, (by decide)⟩, (by decide)⟩ ?_
  refine tf_go hx ftX10_refuse 4 [] 16 [some (.ref 4), some (.int (-2))] [.int (-(-2)), .ref 124] S rfl ⟨by decide, by decide, rfl⟩ ⟨trivial, ⟨by first | assumption | rfl | decide | omega | exact Nat.succ_ne_zero _, by first | assumption | rfl | decide | omega | exact Nat.succ_ne_zero _⟩⟩ ?_
  refine tf_go hx ftX10_refuse 2 [] 18 [some (.ref 4), some (.int (-2))] [.int (S 124 (Int32.toNatClampNeg (-(-2)))), .int (-(-2)), .ref 124] S rfl ⟨by decide, by decide, rfl⟩ ⟨trivial, ⟨Or.inl (by first | assumption | rfl | decide | omega | exact Nat.succ_ne_zero _), (by show vp_in (-(-2)) 7; unfold vp_in; decide)⟩⟩ ?_
  refine tf_go hx ftX10_refuse 2 [] 20 [some (.ref 4), some (.int (-2))] [.int ((S 124 (Int32.toNatClampNeg (-(-2)))) + 1), .int (-(-2)), .ref 124] S rfl ⟨by decide, by decide, rfl⟩ trivial ?_
  refine tf_go hx ftX10_refuse 1 [] 21 [some (.ref 4), some (.int (-2))] [] (tf_set S 124 (Int32.toNatClampNeg (-(-2))) ((S 124 (Int32.toNatClampNeg (-(-2)))) + 1)) rfl ⟨by decide, by decide, rfl⟩ ⟨trivial, ⟨by first | assumption | rfl | decide | omega | exact Nat.succ_ne_zero _, (by show vp_in (-(-2)) 7; unfold vp_in; decide)⟩⟩ ?_
  refine tf_go hx ftX10_refuse 1 [] 22 [some (.ref 4), some (.int (-2))] [.int (-2)] (tf_set S 124 (Int32.toNatClampNeg (-(-2))) ((S 124 (Int32.toNatClampNeg (-(-2)))) + 1)) rfl ⟨by decide, by decide, rfl⟩ trivial ?_
  exact tf_ret ftX10_refuse hR rfl ⟨by decide, by decide⟩ rfl rfl rfl

set_option maxHeartbeats 1000000 in
theorem n_ref3 {N : Nat} {S : tf_Sg}  : tf_Fn mX10_refuse 1 0 0 (tf_GG N) S [.ref 4, .int (-3)] (tf_GG N) (tf_set S 124 3 (S 124 3 + 1)) (some (.int (-3))) := by
  refine tf_Fn_of (own := RX10) false ⟨by decide, rfl, by decide⟩ (Nat.le_of_ble_eq_true rfl) trivial (fun x hx hR => ?_)
  show tf_K x 0 0 (tf_GG N) S 0 [some (.ref 4), some (.int (-3))] []
  refine tf_go hx ftX10_refuse 5 [false, false] 10 [some (.ref 4), some (.int (-3))] [] S rfl ⟨by decide, by decide, rfl⟩ ⟨⟨trivial, (by decide)⟩, (by decide)⟩ ?_
  refine tf_go hx ftX10_refuse 4 [] 16 [some (.ref 4), some (.int (-3))] [.int (-(-3)), .ref 124] S rfl ⟨by decide, by decide, rfl⟩ ⟨trivial, ⟨by first | assumption | rfl | decide | omega | exact Nat.succ_ne_zero _, by first | assumption | rfl | decide | omega | exact Nat.succ_ne_zero _⟩⟩ ?_
  refine tf_go hx ftX10_refuse 2 [] 18 [some (.ref 4), some (.int (-3))] [.int (S 124 (Int32.toNatClampNeg (-(-3)))), .int (-(-3)), .ref 124] S rfl ⟨by decide, by decide, rfl⟩ ⟨trivial, ⟨Or.inl (by first | assumption | rfl | decide | omega | exact Nat.succ_ne_zero _), (by show vp_in (-(-3)) 7; unfold vp_in; decide)⟩⟩ ?_
  refine tf_go hx ftX10_refuse 2 [] 20 [some (.ref 4), some (.int (-3))] [.int ((S 124 (Int32.toNatClampNeg (-(-3)))) + 1), .int (-(-3)), .ref 124] S rfl ⟨by decide, by decide, rfl⟩ trivial ?_
  refine tf_go hx ftX10_refuse 1 [] 21 [some (.ref 4), some (.int (-3))] [] (tf_set S 124 (Int32.toNatClampNeg (-(-3))) ((S 124 (Int32.toNatClampNeg (-(-3)))) + 1)) rfl ⟨by decide, by decide, rfl⟩ ⟨trivial, ⟨by first | assumption | rfl | decide | omega | exact Nat.succ_ne_zero _, (by show vp_in (-(-3)) 7; unfold vp_in; decide)⟩⟩ ?_
  refine tf_go hx ftX10_refuse 1 [] 22 [some (.ref 4), some (.int (-3))] [.int (-3)] (tf_set S 124 (Int32.toNatClampNeg (-(-3))) ((S 124 (Int32.toNatClampNeg (-(-3)))) + 1)) rfl ⟨by decide, by decide, rfl⟩ trivial ?_
  exact tf_ret ftX10_refuse hR rfl ⟨by decide, by decide⟩ rfl rfl rfl

set_option maxHeartbeats 1000000 in
theorem n_ref4 {N : Nat} {S : tf_Sg}  : tf_Fn mX10_refuse 1 0 0 (tf_GG N) S [.ref 4, .int (-4)] (tf_GG N) (tf_set S 124 4 (S 124 4 + 1)) (some (.int (-4))) := by
  refine tf_Fn_of (own := RX10) false ⟨by decide, rfl, by decide⟩ (Nat.le_of_ble_eq_true rfl) trivial (fun x hx hR => ?_)
  show tf_K x 0 0 (tf_GG N) S 0 [some (.ref 4), some (.int (-4))] []
  refine tf_go hx ftX10_refuse 5 [false, false] 10 [some (.ref 4), some (.int (-4))] [] S rfl ⟨by decide, by decide, rfl⟩ ⟨⟨trivial, (by decide)⟩, (by decide)⟩ ?_
  refine tf_go hx ftX10_refuse 4 [] 16 [some (.ref 4), some (.int (-4))] [.int (-(-4)), .ref 124] S rfl ⟨by decide, by decide, rfl⟩ ⟨trivial, ⟨by first | assumption | rfl | decide | omega | exact Nat.succ_ne_zero _, by first | assumption | rfl | decide | omega | exact Nat.succ_ne_zero _⟩⟩ ?_
  refine tf_go hx ftX10_refuse 2 [] 18 [some (.ref 4), some (.int (-4))] [.int (S 124 (Int32.toNatClampNeg (-(-4)))), .int (-(-4)), .ref 124] S rfl ⟨by decide, by decide, rfl⟩ ⟨trivial, ⟨Or.inl (by first | assumption | rfl | decide | omega | exact Nat.succ_ne_zero _), (by show vp_in (-(-4)) 7; unfold vp_in; decide)⟩⟩ ?_
  refine tf_go hx ftX10_refuse 2 [] 20 [some (.ref 4), some (.int (-4))] [.int ((S 124 (Int32.toNatClampNeg (-(-4)))) + 1), .int (-(-4)), .ref 124] S rfl ⟨by decide, by decide, rfl⟩ trivial ?_
  refine tf_go hx ftX10_refuse 1 [] 21 [some (.ref 4), some (.int (-4))] [] (tf_set S 124 (Int32.toNatClampNeg (-(-4))) ((S 124 (Int32.toNatClampNeg (-(-4)))) + 1)) rfl ⟨by decide, by decide, rfl⟩ ⟨trivial, ⟨by first | assumption | rfl | decide | omega | exact Nat.succ_ne_zero _, (by show vp_in (-(-4)) 7; unfold vp_in; decide)⟩⟩ ?_
  refine tf_go hx ftX10_refuse 1 [] 22 [some (.ref 4), some (.int (-4))] [.int (-4)] (tf_set S 124 (Int32.toNatClampNeg (-(-4))) ((S 124 (Int32.toNatClampNeg (-(-4)))) + 1)) rfl ⟨by decide, by decide, rfl⟩ trivial ?_
  exact tf_ret ftX10_refuse hR rfl ⟨by decide, by decide⟩ rfl rfl rfl

set_option maxHeartbeats 1000000 in
theorem n_ref6 {N : Nat} {S : tf_Sg}  : tf_Fn mX10_refuse 1 0 0 (tf_GG N) S [.ref 4, .int (-6)] (tf_GG N) (tf_set S 124 6 (S 124 6 + 1)) (some (.int (-6))) := by
  refine tf_Fn_of (own := RX10) false ⟨by decide, rfl, by decide⟩ (Nat.le_of_ble_eq_true rfl) trivial (fun x hx hR => ?_)
  show tf_K x 0 0 (tf_GG N) S 0 [some (.ref 4), some (.int (-6))] []
  refine tf_go hx ftX10_refuse 5 [false, false] 10 [some (.ref 4), some (.int (-6))] [] S rfl ⟨by decide, by decide, rfl⟩ ⟨⟨trivial, (by decide)⟩, (by decide)⟩ ?_
  refine tf_go hx ftX10_refuse 4 [] 16 [some (.ref 4), some (.int (-6))] [.int (-(-6)), .ref 124] S rfl ⟨by decide, by decide, rfl⟩ ⟨trivial, ⟨by first | assumption | rfl | decide | omega | exact Nat.succ_ne_zero _, by first | assumption | rfl | decide | omega | exact Nat.succ_ne_zero _⟩⟩ ?_
  refine tf_go hx ftX10_refuse 2 [] 18 [some (.ref 4), some (.int (-6))] [.int (S 124 (Int32.toNatClampNeg (-(-6)))), .int (-(-6)), .ref 124] S rfl ⟨by decide, by decide, rfl⟩ ⟨trivial, ⟨Or.inl (by first | assumption | rfl | decide | omega | exact Nat.succ_ne_zero _), (by show vp_in (-(-6)) 7; unfold vp_in; decide)⟩⟩ ?_
  refine tf_go hx ftX10_refuse 2 [] 20 [some (.ref 4), some (.int (-6))] [.int ((S 124 (Int32.toNatClampNeg (-(-6)))) + 1), .int (-(-6)), .ref 124] S rfl ⟨by decide, by decide, rfl⟩ trivial ?_
  refine tf_go hx ftX10_refuse 1 [] 21 [some (.ref 4), some (.int (-6))] [] (tf_set S 124 (Int32.toNatClampNeg (-(-6))) ((S 124 (Int32.toNatClampNeg (-(-6)))) + 1)) rfl ⟨by decide, by decide, rfl⟩ ⟨trivial, ⟨by first | assumption | rfl | decide | omega | exact Nat.succ_ne_zero _, (by show vp_in (-(-6)) 7; unfold vp_in; decide)⟩⟩ ?_
  refine tf_go hx ftX10_refuse 1 [] 22 [some (.ref 4), some (.int (-6))] [.int (-6)] (tf_set S 124 (Int32.toNatClampNeg (-(-6))) ((S 124 (Int32.toNatClampNeg (-(-6)))) + 1)) rfl ⟨by decide, by decide, rfl⟩ trivial ?_
  exact tf_ret ftX10_refuse hR rfl ⟨by decide, by decide⟩ rfl rfl rfl

theorem tf_w16 {w : Int32} (h : w < 17) : w ≤ 16 := by
  rw [Int32.le_iff_toInt_le]
  rw [Int32.lt_iff_toInt_lt] at h
  have h1 : (17 : Int32).toInt = 17 := by decide
  have h2 : (16 : Int32).toInt = 16 := by decide
  omega
theorem tf_w17 {w : Int32} (h : w ≤ 16) : w < 17 := by
  rw [Int32.lt_iff_toInt_lt]
  rw [Int32.le_iff_toInt_le] at h
  have h1 : (17 : Int32).toInt = 17 := by decide
  have h2 : (16 : Int32).toInt = 16 := by decide
  omega
theorem tf_w10 {w : Int32} (h1 : 10 < w) (h2 : w < 17) : vp_in (w - 10) 7 := by
  have h0 : ¬ w < 0 := fun h => absurd (Int32.lt_trans h1 h) (by decide)
  obtain ⟨j, hj, rfl⟩ := nI_of h0
  have a1 : 10 < j := (nI_ltI (a := 10) (by decide) hj).mp h1
  have a2 : j < 17 := (nI_ltI (b := 17) hj (by decide)).mp h2
  rw [show nI j - 10 = nI (j - 10) from pk_sub (a := j) (b := 10) (by omega)]
  exact vp_in_nI (by omega) (by decide)

set_option maxHeartbeats 1000000 in
theorem n_refs {N : Nat} {S : tf_Sg} (w : Int32)  : tf_Fn mX10_refusalsOf 1 0 0 (tf_GG N) S [.ref 4, .int w] (tf_GG N) S (some (.int (if 10 < w ∧ w < 17 then S 124 (w - 10).toNatClampNeg else (-9)))) := by
  refine tf_Fn_of (own := RX10) false ⟨by decide, rfl, by decide⟩ (Nat.le_of_ble_eq_true rfl) trivial (fun x hx hR => ?_)
  show tf_K x 0 0 (tf_GG N) S 0 [some (.ref 4), some (.int w)] []
  by_cases e1 : 10 < w ∧ w < 17
  · obtain ⟨a1, a2⟩ := e1
    have h6 : vp_in (w - 10) 7 := tf_w10 a1 a2
    refine tf_go hx ftX10_refusalsOf 3 [false] 6 [some (.ref 4), some (.int w)] [] S rfl ⟨by decide, by decide, rfl⟩ ⟨trivial, (Int32.not_le.mpr a1)⟩ ?_
    refine tf_go hx ftX10_refusalsOf 3 [true] 15 [some (.ref 4), some (.int w)] [] S rfl ⟨by decide, by decide, rfl⟩ ⟨trivial, (tf_w16 a2)⟩ ?_
    refine tf_go hx ftX10_refusalsOf 5 [] 23 [some (.ref 4), some (.int w)] [.int (w - 10), .ref 124] S rfl ⟨by decide, by decide, rfl⟩ ⟨trivial, ⟨by first | assumption | rfl | decide | omega | exact Nat.succ_ne_zero _, by first | assumption | rfl | decide | omega | exact Nat.succ_ne_zero _⟩⟩ ?_
    refine tf_go hx ftX10_refusalsOf 1 [] 24 [some (.ref 4), some (.int w)] [.int (S 124 (Int32.toNatClampNeg (w - 10)))] S rfl ⟨by decide, by decide, rfl⟩ ⟨trivial, ⟨Or.inl (by first | assumption | rfl | decide | omega | exact Nat.succ_ne_zero _), (by show vp_in (w - 10) 7; exact h6)⟩⟩ ?_
    exact tf_ret ftX10_refusalsOf hR rfl ⟨by decide, by decide⟩ rfl rfl (by rw [if_pos ⟨a1, a2⟩]; rfl)
  · by_cases e2 : w ≤ 10
    · refine tf_go hx ftX10_refusalsOf 3 [true] 12 [some (.ref 4), some (.int w)] [] S rfl ⟨by decide, by decide, rfl⟩ ⟨trivial, (by first | assumption | rfl | decide | omega | exact Nat.succ_ne_zero _)⟩ ?_
      refine tf_go hx ftX10_refusalsOf 1 [] 14 [some (.ref 4), some (.int w)] [.int (-9)] S rfl ⟨by decide, by decide, rfl⟩ trivial ?_
      exact tf_ret ftX10_refusalsOf hR rfl ⟨by decide, by decide⟩ rfl rfl (by rw [if_neg e1]; rfl)
    · refine tf_go hx ftX10_refusalsOf 3 [false] 6 [some (.ref 4), some (.int w)] [] S rfl ⟨by decide, by decide, rfl⟩ ⟨trivial, (by first | assumption | rfl | decide | omega | exact Nat.succ_ne_zero _)⟩ ?_
      refine tf_go hx ftX10_refusalsOf 3 [false] 12 [some (.ref 4), some (.int w)] [] S rfl ⟨by decide, by decide, rfl⟩ ⟨trivial, (fun h => e1 ⟨Int32.not_le.mp e2, tf_w17 h⟩)⟩ ?_
      refine tf_go hx ftX10_refusalsOf 1 [] 14 [some (.ref 4), some (.int w)] [.int (-9)] S rfl ⟨by decide, by decide, rfl⟩ trivial ?_
      exact tf_ret ftX10_refusalsOf hR rfl ⟨by decide, by decide⟩ rfl rfl (by rw [if_neg e1]; rfl)

