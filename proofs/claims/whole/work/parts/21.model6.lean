def tX11_may : tf_T := [(0, .iload_n 1, 1, 0, 0),
  (1, .invokestatic 40, 4, 0, 0),
  (4, .ifCond .ne 9, 7, 13, 0),
  (7, .aload_n 0, 8, 0, 0),
  (8, .iconst (-1), 9, 0, (-1)),
  (9, .invokevirtual 26, 12, 0, 0),
  (12, .ireturn, 13, 0, 0),
  (13, .iconst 0, 14, 0, 0),
  (14, .istore_n 2, 15, 0, 0),
  (15, .iconst 0, 16, 0, 0),
  (16, .istore_n 3, 17, 0, 0),
  (17, .iload_n 3, 18, 0, 0),
  (18, .bipush 8, 20, 0, 8),
  (20, .if_icmp .ge 28, 23, 48, 0),
  (23, .iload_n 2, 24, 0, 0),
  (24, .aload_n 0, 25, 0, 0),
  (25, .iload_n 1, 26, 0, 0),
  (26, .iload_n 3, 27, 0, 0),
  (27, .invokevirtual 116, 30, 0, 0),
  (30, .ifCond .lt 9, 33, 39, 0),
  (33, .iconst 1, 34, 0, 1),
  (34, .iload_n 3, 35, 0, 0),
  (35, .ishl, 36, 0, 0),
  (36, .goto 4, 39, 40, 0),
  (39, .iconst 0, 40, 0, 0),
  (40, .ior, 41, 0, 0),
  (41, .istore_n 2, 42, 0, 0),
  (42, .iinc 3 1, 45, 0, 1),
  (45, .goto (-28), 48, 17, 0),
  (48, .iload_n 2, 49, 0, 0),
  (49, .ireturn, 50, 0, 0)]
set_option maxRecDepth 100000 in
theorem okX11_may : tf_okT cX11_may tX11_may := by unfold tf_okT; decide +kernel
theorem ftX11_may : 1 ≤ 4 ∧ tf_okF RX11 fX11 ∧ tf_okT cX11_may tX11_may := ⟨by decide, okfX11, okX11_may⟩
def mX11_may : tf_M := (yX11_may, cX11_may, 4, (some .int))

def tX11_climb : tf_T := [(0, .iload_n 1, 1, 0, 0),
  (1, .invokestatic 62, 4, 0, 0),
  (4, .ifCond .eq 19, 7, 23, 0),
  (7, .iload_n 2, 8, 0, 0),
  (8, .invokestatic 40, 11, 0, 0),
  (11, .ifCond .eq 12, 14, 23, 0),
  (14, .iload_n 3, 15, 0, 0),
  (15, .iconst 1, 16, 0, 1),
  (16, .iconst 5, 17, 0, 5),
  (17, .invokestatic 65, 20, 0, 0),
  (20, .goto 4, 23, 24, 0),
  (23, .iconst (-1), 24, 0, (-1)),
  (24, .istore 4, 26, 0, 0),
  (26, .iload 4, 28, 0, 0),
  (28, .ifCond .eq 10, 31, 38, 0),
  (31, .aload_n 0, 32, 0, 0),
  (32, .iload 4, 34, 0, 0),
  (34, .invokevirtual 26, 37, 0, 0),
  (37, .ireturn, 38, 0, 0),
  (38, .iconst 0, 39, 0, 0),
  (39, .istore 5, 41, 0, 0),
  (41, .iload 5, 43, 0, 0),
  (43, .iload_n 3, 44, 0, 0),
  (44, .if_icmp .ge 40, 47, 84, 0),
  (47, .aload_n 0, 48, 0, 0),
  (48, .iload_n 1, 49, 0, 0),
  (49, .iload_n 2, 50, 0, 0),
  (50, .invokevirtual 123, 53, 0, 0),
  (53, .istore 6, 55, 0, 0),
  (55, .iload 6, 57, 0, 0),
  (57, .ifCond .ge 6, 60, 63, 0),
  (60, .iload 5, 62, 0, 0),
  (62, .ireturn, 63, 0, 0),
  (63, .aload_n 0, 64, 0, 0),
  (64, .iload_n 2, 65, 0, 0),
  (65, .iload 6, 67, 0, 0),
  (67, .bipush 100, 69, 0, 100),
  (69, .idiv, 70, 0, 0),
  (70, .iload 6, 72, 0, 0),
  (72, .bipush 100, 74, 0, 100),
  (74, .irem, 75, 0, 0),
  (75, .invokevirtual 119, 78, 0, 0),
  (78, .iinc 5 1, 81, 0, 1),
  (81, .goto (-40), 84, 41, 0),
  (84, .iload_n 3, 85, 0, 0),
  (85, .ireturn, 86, 0, 0)]
set_option maxRecDepth 100000 in
theorem okX11_climb : tf_okT cX11_climb tX11_climb := by unfold tf_okT; decide +kernel
theorem ftX11_climb : 1 ≤ 7 ∧ tf_okF RX11 fX11 ∧ tf_okT cX11_climb tX11_climb := ⟨by decide, okfX11, okX11_climb⟩
def mX11_climb : tf_M := (yX11_climb, cX11_climb, 7, (some .int))

def tX11_summer : tf_T := [(0, .iload_n 1, 1, 0, 0),
  (1, .ifCond .lt 13, 4, 14, 0),
  (4, .iload_n 2, 5, 0, 0),
  (5, .iconst 1, 6, 0, 1),
  (6, .if_icmp .lt 8, 9, 14, 0),
  (9, .iload_n 3, 10, 0, 0),
  (10, .iconst 1, 11, 0, 1),
  (11, .if_icmp .ge 10, 14, 21, 0),
  (14, .aload_n 0, 15, 0, 0),
  (15, .bipush (-4), 17, 0, (-4)),
  (17, .invokevirtual 26, 20, 0, 0),
  (20, .ireturn, 21, 0, 0),
  (21, .iload_n 1, 22, 0, 0),
  (22, .bipush 99, 24, 0, 99),
  (24, .if_icmp .gt 15, 27, 39, 0),
  (27, .iload_n 2, 28, 0, 0),
  (28, .bipush 50, 30, 0, 50),
  (30, .if_icmp .gt 9, 33, 39, 0),
  (33, .iload_n 3, 34, 0, 0),
  (34, .bipush 50, 36, 0, 50),
  (36, .if_icmp .le 10, 39, 46, 0),
  (39, .aload_n 0, 40, 0, 0),
  (40, .bipush (-6), 42, 0, (-6)),
  (42, .invokevirtual 26, 45, 0, 0),
  (45, .ireturn, 46, 0, 0),
  (46, .iconst 0, 47, 0, 0),
  (47, .istore 4, 49, 0, 0),
  (49, .iconst 0, 50, 0, 0),
  (50, .istore 5, 52, 0, 0),
  (52, .iload 5, 54, 0, 0),
  (54, .sipush 999, 57, 0, 999),
  (57, .if_icmp .ge 51, 60, 108, 0),
  (60, .iload_n 1, 61, 0, 0),
  (61, .iload 5, 63, 0, 0),
  (63, .iload_n 2, 64, 0, 0),
  (64, .imul, 65, 0, 0),
  (65, .iadd, 66, 0, 0),
  (66, .istore 6, 68, 0, 0),
  (68, .iload 4, 70, 0, 0),
  (70, .iload 6, 72, 0, 0),
  (72, .bipush 100, 74, 0, 100),
  (74, .iload_n 3, 75, 0, 0),
  (75, .iadd, 76, 0, 0),
  (76, .if_icmp .le 10, 79, 86, 0),
  (79, .bipush 100, 81, 0, 100),
  (81, .iload_n 3, 82, 0, 0),
  (82, .iadd, 83, 0, 0),
  (83, .goto 5, 86, 88, 0),
  (86, .iload 6, 88, 0, 0),
  (88, .bipush 100, 90, 0, 100),
  (90, .isub, 91, 0, 0),
  (91, .iadd, 92, 0, 0),
  (92, .istore 4, 94, 0, 0),
  (94, .iload 4, 96, 0, 0),
  (96, .ifCond .lt 6, 99, 102, 0),
  (99, .iload 5, 101, 0, 0),
  (101, .ireturn, 102, 0, 0),
  (102, .iinc 5 1, 105, 0, 1),
  (105, .goto (-53), 108, 52, 0),
  (108, .bipush (-9), 110, 0, (-9)),
  (110, .ireturn, 111, 0, 0)]
set_option maxRecDepth 100000 in
theorem okX11_summer : tf_okT cX11_summer tX11_summer := by unfold tf_okT; decide +kernel
theorem ftX11_summer : 1 ≤ 2 ∧ tf_okF RX11 fX11 ∧ tf_okT cX11_summer tX11_summer := ⟨by decide, okfX11, okX11_summer⟩
def mX11_summer : tf_M := (yX11_summer, cX11_summer, 7, (some .int))

def tX11_nearest : tf_T := [(0, .iload_n 1, 1, 0, 0),
  (1, .invokestatic 40, 4, 0, 0),
  (4, .ifCond .ne 9, 7, 13, 0),
  (7, .aload_n 0, 8, 0, 0),
  (8, .iconst (-1), 9, 0, (-1)),
  (9, .invokevirtual 26, 12, 0, 0),
  (12, .ireturn, 13, 0, 0),
  (13, .aload_n 0, 14, 0, 0),
  (14, .getfield 13, 17, 0, 0),
  (17, .sipush 367, 20, 0, 367),
  (20, .iaload, 21, 0, 0),
  (21, .aload_n 0, 22, 0, 0),
  (22, .getfield 13, 25, 0, 0),
  (25, .sipush 364, 28, 0, 364),
  (28, .iaload, 29, 0, 0),
  (29, .if_icmp .eq 6, 32, 35, 0),
  (32, .bipush (-9), 34, 0, (-9)),
  (34, .ireturn, 35, 0, 0),
  (35, .iconst 0, 36, 0, 0),
  (36, .istore_n 2, 37, 0, 0),
  (37, .iconst 1, 38, 0, 1),
  (38, .istore_n 3, 39, 0, 0),
  (39, .iload_n 3, 40, 0, 0),
  (40, .iconst 4, 41, 0, 4),
  (41, .if_icmp .ge 30, 44, 71, 0),
  (44, .aload_n 0, 45, 0, 0),
  (45, .iload_n 3, 46, 0, 0),
  (46, .iload_n 1, 47, 0, 0),
  (47, .invokevirtual 126, 50, 0, 0),
  (50, .aload_n 0, 51, 0, 0),
  (51, .iload_n 2, 52, 0, 0),
  (52, .iload_n 1, 53, 0, 0),
  (53, .invokevirtual 126, 56, 0, 0),
  (56, .if_icmp .ge 7, 59, 63, 0),
  (59, .iload_n 3, 60, 0, 0),
  (60, .goto 4, 63, 64, 0),
  (63, .iload_n 2, 64, 0, 0),
  (64, .istore_n 2, 65, 0, 0),
  (65, .iinc 3 1, 68, 0, 1),
  (68, .goto (-29), 71, 39, 0),
  (71, .iconst 0, 72, 0, 0),
  (72, .istore_n 3, 73, 0, 0),
  (73, .iload_n 3, 74, 0, 0),
  (74, .iconst 4, 75, 0, 4),
  (75, .if_icmp .ge 32, 78, 107, 0),
  (78, .iload_n 3, 79, 0, 0),
  (79, .iload_n 2, 80, 0, 0),
  (80, .if_icmp .eq 21, 83, 101, 0),
  (83, .aload_n 0, 84, 0, 0),
  (84, .iload_n 3, 85, 0, 0),
  (85, .iload_n 1, 86, 0, 0),
  (86, .invokevirtual 126, 89, 0, 0),
  (89, .aload_n 0, 90, 0, 0),
  (90, .iload_n 2, 91, 0, 0),
  (91, .iload_n 1, 92, 0, 0),
  (92, .invokevirtual 126, 95, 0, 0),
  (95, .if_icmp .ne 6, 98, 101, 0),
  (98, .bipush (-9), 100, 0, (-9)),
  (100, .ireturn, 101, 0, 0),
  (101, .iinc 3 1, 104, 0, 1),
  (104, .goto (-31), 107, 73, 0),
  (107, .iload_n 2, 108, 0, 0),
  (108, .ireturn, 109, 0, 0)]
set_option maxRecDepth 100000 in
theorem okX11_nearest : tf_okT cX11_nearest tX11_nearest := by unfold tf_okT; decide +kernel
theorem ftX11_nearest : 1 ≤ 6 ∧ tf_okF RX11 fX11 ∧ tf_okT cX11_nearest tX11_nearest := ⟨by decide, okfX11, okX11_nearest⟩
def mX11_nearest : tf_M := (yX11_nearest, cX11_nearest, 4, (some .int))

def tX11_span : tf_T := [(0, .iload_n 1, 1, 0, 0),
  (1, .invokestatic 40, 4, 0, 0),
  (4, .ifCond .ne 9, 7, 13, 0),
  (7, .aload_n 0, 8, 0, 0),
  (8, .iconst (-1), 9, 0, (-1)),
  (9, .invokevirtual 26, 12, 0, 0),
  (12, .ireturn, 13, 0, 0),
  (13, .iload_n 2, 14, 0, 0),
  (14, .iconst 3, 15, 0, 3),
  (15, .invokestatic 22, 18, 0, 0),
  (18, .ifCond .ne 10, 21, 28, 0),
  (21, .aload_n 0, 22, 0, 0),
  (22, .bipush (-2), 24, 0, (-2)),
  (24, .invokevirtual 26, 27, 0, 0),
  (27, .ireturn, 28, 0, 0),
  (28, .bipush (-9), 30, 0, (-9)),
  (30, .istore 4, 32, 0, 0),
  (32, .iconst 1, 33, 0, 1),
  (33, .istore 5, 35, 0, 0),
  (35, .iload 5, 37, 0, 0),
  (37, .aload_n 0, 38, 0, 0),
  (38, .getfield 13, 41, 0, 0),
  (41, .sipush 367, 44, 0, 367),
  (44, .iaload, 45, 0, 0),
  (45, .if_icmp .ge 151, 48, 196, 0),
  (48, .iload 5, 50, 0, 0),
  (50, .aload_n 0, 51, 0, 0),
  (51, .getfield 13, 54, 0, 0),
  (54, .sipush 364, 57, 0, 364),
  (57, .iaload, 58, 0, 0),
  (58, .if_icmp .ge 138, 61, 196, 0),
  (61, .aload_n 0, 62, 0, 0),
  (62, .iload_n 1, 63, 0, 0),
  (63, .aload_n 0, 64, 0, 0),
  (64, .getfield 13, 67, 0, 0),
  (67, .sipush 144, 70, 0, 144),
  (70, .iload 5, 72, 0, 0),
  (72, .iadd, 73, 0, 0),
  (73, .iaload, 74, 0, 0),
  (74, .invokevirtual 51, 77, 0, 0),
  (77, .istore 6, 79, 0, 0),
  (79, .aload_n 0, 80, 0, 0),
  (80, .iload_n 1, 81, 0, 0),
  (81, .aload_n 0, 82, 0, 0),
  (82, .getfield 13, 85, 0, 0),
  (85, .sipush 144, 88, 0, 144),
  (88, .iload 5, 90, 0, 0),
  (90, .iadd, 91, 0, 0),
  (91, .iconst 1, 92, 0, 1),
  (92, .isub, 93, 0, 0),
  (93, .iaload, 94, 0, 0),
  (94, .invokevirtual 51, 97, 0, 0),
  (97, .istore 7, 99, 0, 0),
  (99, .iload 6, 101, 0, 0),
  (101, .ifCond .lt 89, 104, 190, 0),
  (104, .iload 7, 106, 0, 0),
  (106, .ifCond .lt 84, 109, 190, 0),
  (109, .iload 7, 111, 0, 0),
  (111, .iload 6, 113, 0, 0),
  (113, .iconst 0, 114, 0, 0),
  (114, .invokestatic 72, 117, 0, 0),
  (117, .iload_n 2, 118, 0, 0),
  (118, .if_icmp .ne 72, 121, 190, 0),
  (121, .iload_n 2, 122, 0, 0),
  (122, .iconst 1, 123, 0, 1),
  (123, .if_icmp .ne 19, 126, 142, 0),
  (126, .iload 7, 128, 0, 0),
  (128, .bipush 10, 130, 0, 10),
  (130, .idiv, 131, 0, 0),
  (131, .iload 6, 133, 0, 0),
  (133, .bipush 10, 135, 0, 10),
  (135, .idiv, 136, 0, 0),
  (136, .if_icmp .eq 6, 139, 142, 0),
  (139, .goto 51, 142, 190, 0),
  (142, .aload_n 0, 143, 0, 0),
  (143, .getfield 13, 146, 0, 0),
  (146, .sipush 324, 149, 0, 324),
  (149, .iload 5, 151, 0, 0),
  (151, .iadd, 152, 0, 0),
  (152, .iaload, 153, 0, 0),
  (153, .istore 8, 155, 0, 0),
  (155, .iload 4, 157, 0, 0),
  (157, .ifCond .lt 24, 160, 181, 0),
  (160, .iload_n 3, 161, 0, 0),
  (161, .ifCond .eq 13, 164, 174, 0),
  (164, .iload 8, 166, 0, 0),
  (166, .iload 4, 168, 0, 0),
  (168, .if_icmp .le 18, 171, 186, 0),
  (171, .goto 10, 174, 181, 0),
  (174, .iload 8, 176, 0, 0),
  (176, .iload 4, 178, 0, 0),
  (178, .if_icmp .ge 8, 181, 186, 0),
  (181, .iload 8, 183, 0, 0),
  (183, .goto 5, 186, 188, 0),
  (186, .iload 4, 188, 0, 0),
  (188, .istore 4, 190, 0, 0),
  (190, .iinc 5 1, 193, 0, 1),
  (193, .goto (-158), 196, 35, 0),
  (196, .iload 4, 198, 0, 0),
  (198, .ireturn, 199, 0, 0)]
set_option maxRecDepth 100000 in
theorem okX11_span : tf_okT cX11_span tX11_span := by unfold tf_okT; decide +kernel
theorem ftX11_span : 1 ≤ 3 ∧ tf_okF RX11 fX11 ∧ tf_okT cX11_span tX11_span := ⟨by decide, okfX11, okX11_span⟩
def mX11_span : tf_M := (yX11_span, cX11_span, 9, (some .int))

def tX11_ache : tf_T := [(0, .iload_n 1, 1, 0, 0),
  (1, .invokestatic 40, 4, 0, 0),
  (4, .ifCond .eq 12, 7, 16, 0),
  (7, .iload_n 2, 8, 0, 0),
  (8, .bipush 8, 10, 0, 8),
  (10, .invokestatic 22, 13, 0, 0),
  (13, .ifCond .ne 9, 16, 22, 0),
  (16, .aload_n 0, 17, 0, 0),
  (17, .iconst (-1), 18, 0, (-1)),
  (18, .invokevirtual 26, 21, 0, 0),
  (21, .ireturn, 22, 0, 0),
  (22, .iconst 0, 23, 0, 0),
  (23, .istore_n 3, 24, 0, 0),
  (24, .iconst 0, 25, 0, 0),
  (25, .istore 4, 27, 0, 0),
  (27, .iload 4, 29, 0, 0),
  (29, .aload_n 0, 30, 0, 0),
  (30, .getfield 13, 33, 0, 0),
  (33, .sipush 364, 36, 0, 364),
  (36, .iaload, 37, 0, 0),
  (37, .if_icmp .ge 56, 40, 93, 0),
  (40, .aload_n 0, 41, 0, 0),
  (41, .iload_n 1, 42, 0, 0),
  (42, .aload_n 0, 43, 0, 0),
  (43, .getfield 13, 46, 0, 0),
  (46, .sipush 144, 49, 0, 144),
  (49, .iload 4, 51, 0, 0),
  (51, .iadd, 52, 0, 0),
  (52, .iaload, 53, 0, 0),
  (53, .invokevirtual 51, 56, 0, 0),
  (56, .istore 5, 58, 0, 0),
  (58, .iload_n 3, 59, 0, 0),
  (59, .iload 5, 61, 0, 0),
  (61, .ifCond .lt 23, 64, 84, 0),
  (64, .iload 5, 66, 0, 0),
  (66, .iconst 0, 67, 0, 0),
  (67, .invokestatic 58, 70, 0, 0),
  (70, .iload_n 2, 71, 0, 0),
  (71, .if_icmp .ne 13, 74, 84, 0),
  (74, .aload_n 0, 75, 0, 0),
  (75, .iload_n 1, 76, 0, 0),
  (76, .iload 4, 78, 0, 0),
  (78, .invokevirtual 129, 81, 0, 0),
  (81, .goto 4, 84, 85, 0),
  (84, .iconst 0, 85, 0, 0),
  (85, .iadd, 86, 0, 0),
  (86, .istore_n 3, 87, 0, 0),
  (87, .iinc 4 1, 90, 0, 1),
  (90, .goto (-63), 93, 27, 0),
  (93, .iload_n 3, 94, 0, 0),
  (94, .ireturn, 95, 0, 0)]
set_option maxRecDepth 100000 in
theorem okX11_ache : tf_okT cX11_ache tX11_ache := by unfold tf_okT; decide +kernel
theorem ftX11_ache : 1 ≤ 3 ∧ tf_okF RX11 fX11 ∧ tf_okT cX11_ache tX11_ache := ⟨by decide, okfX11, okX11_ache⟩
def mX11_ache : tf_M := (yX11_ache, cX11_ache, 6, (some .int))

def tX11_pauses : tf_T := [(0, .iload_n 1, 1, 0, 0),
  (1, .invokestatic 40, 4, 0, 0),
  (4, .ifCond .ne 9, 7, 13, 0),
  (7, .aload_n 0, 8, 0, 0),
  (8, .iconst (-1), 9, 0, (-1)),
  (9, .invokevirtual 26, 12, 0, 0),
  (12, .ireturn, 13, 0, 0),
  (13, .iload_n 2, 14, 0, 0),
  (14, .iconst 1, 15, 0, 1),
  (15, .if_icmp .lt 7, 18, 22, 0),
  (18, .iload_n 3, 19, 0, 0),
  (19, .ifCond .ge 10, 22, 29, 0),
  (22, .aload_n 0, 23, 0, 0),
  (23, .bipush (-4), 25, 0, (-4)),
  (25, .invokevirtual 26, 28, 0, 0),
  (28, .ireturn, 29, 0, 0),
  (29, .iload_n 2, 30, 0, 0),
  (30, .sipush 999, 33, 0, 999),
  (33, .if_icmp .gt 10, 36, 43, 0),
  (36, .iload_n 3, 37, 0, 0),
  (37, .sipush 999, 40, 0, 999),
  (40, .if_icmp .le 10, 43, 50, 0),
  (43, .aload_n 0, 44, 0, 0),
  (44, .bipush (-6), 46, 0, (-6)),
  (46, .invokevirtual 26, 49, 0, 0),
  (49, .ireturn, 50, 0, 0),
  (50, .iconst 0, 51, 0, 0),
  (51, .istore 4, 53, 0, 0),
  (53, .iconst 0, 54, 0, 0),
  (54, .istore 5, 56, 0, 0),
  (56, .iconst 0, 57, 0, 0),
  (57, .istore 6, 59, 0, 0),
  (59, .iload 6, 61, 0, 0),
  (61, .aload_n 0, 62, 0, 0),
  (62, .getfield 13, 65, 0, 0),
  (65, .sipush 364, 68, 0, 364),
  (68, .iaload, 69, 0, 0),
  (69, .if_icmp .ge 72, 72, 141, 0),
  (72, .aload_n 0, 73, 0, 0),
  (73, .iload_n 1, 74, 0, 0),
  (74, .iload 6, 76, 0, 0),
  (76, .invokevirtual 129, 79, 0, 0),
  (79, .istore 7, 81, 0, 0),
  (81, .iload 7, 83, 0, 0),
  (83, .iload_n 2, 84, 0, 0),
  (84, .if_icmp .le 6, 87, 90, 0),
  (87, .bipush (-9), 89, 0, (-9)),
  (89, .ireturn, 90, 0, 0),
  (90, .iload 4, 92, 0, 0),
  (92, .iload 7, 94, 0, 0),
  (94, .iadd, 95, 0, 0),
  (95, .iload_n 2, 96, 0, 0),
  (96, .if_icmp .le 32, 99, 128, 0),
  (99, .iload_n 3, 100, 0, 0),
  (100, .ifCond .ne 6, 103, 106, 0),
  (103, .bipush (-9), 105, 0, (-9)),
  (105, .ireturn, 106, 0, 0),
  (106, .iload 4, 108, 0, 0),
  (108, .iload_n 3, 109, 0, 0),
  (109, .if_icmp .le 10, 112, 119, 0),
  (112, .iload 4, 114, 0, 0),
  (114, .iload_n 3, 115, 0, 0),
  (115, .isub, 116, 0, 0),
  (116, .goto 4, 119, 120, 0),
  (119, .iconst 0, 120, 0, 0),
  (120, .istore 4, 122, 0, 0),
  (122, .iinc 5 1, 125, 0, 1),
  (125, .goto (-35), 128, 90, 0),
  (128, .iload 4, 130, 0, 0),
  (130, .iload 7, 132, 0, 0),
  (132, .iadd, 133, 0, 0),
  (133, .istore 4, 135, 0, 0),
  (135, .iinc 6 1, 138, 0, 1),
  (138, .goto (-79), 141, 59, 0),
  (141, .iload 5, 143, 0, 0),
  (143, .ireturn, 144, 0, 0)]
set_option maxRecDepth 100000 in
theorem okX11_pauses : tf_okT cX11_pauses tX11_pauses := by unfold tf_okT; decide +kernel
theorem ftX11_pauses : 1 ≤ 3 ∧ tf_okF RX11 fX11 ∧ tf_okT cX11_pauses tX11_pauses := ⟨by decide, okfX11, okX11_pauses⟩
def mX11_pauses : tf_M := (yX11_pauses, cX11_pauses, 8, (some .int))

def tX11_soonest : tf_T := [(0, .iload_n 1, 1, 0, 0),
  (1, .invokestatic 62, 4, 0, 0),
  (4, .ifCond .eq 21, 7, 25, 0),
  (7, .iload_n 2, 8, 0, 0),
  (8, .invokestatic 40, 11, 0, 0),
  (11, .ifCond .eq 14, 14, 25, 0),
  (14, .iload_n 3, 15, 0, 0),
  (15, .iconst 0, 16, 0, 0),
  (16, .sipush 9999, 19, 0, 9999),
  (19, .invokestatic 65, 22, 0, 0),
  (22, .goto 4, 25, 26, 0),
  (25, .iconst (-1), 26, 0, (-1)),
  (26, .istore 4, 28, 0, 0),
  (28, .iload 4, 30, 0, 0),
  (30, .ifCond .eq 10, 33, 40, 0),
  (33, .aload_n 0, 34, 0, 0),
  (34, .iload 4, 36, 0, 0),
  (36, .invokevirtual 26, 39, 0, 0),
  (39, .ireturn, 40, 0, 0),
  (40, .iconst 1, 41, 0, 1),
  (41, .istore 5, 43, 0, 0),
  (43, .iconst 2, 44, 0, 2),
  (44, .istore 6, 46, 0, 0),
  (46, .iload 6, 48, 0, 0),
  (48, .bipush 10, 50, 0, 10),
  (50, .if_icmp .ge 39, 53, 89, 0),
  (53, .aload_n 0, 54, 0, 0),
  (54, .iload_n 1, 55, 0, 0),
  (55, .iload_n 2, 56, 0, 0),
  (56, .iload 6, 58, 0, 0),
  (58, .iload_n 3, 59, 0, 0),
  (59, .invokevirtual 132, 62, 0, 0),
  (62, .aload_n 0, 63, 0, 0),
  (63, .iload_n 1, 64, 0, 0),
  (64, .iload_n 2, 65, 0, 0),
  (65, .iload 5, 67, 0, 0),
  (67, .iload_n 3, 68, 0, 0),
  (68, .invokevirtual 132, 71, 0, 0),
  (71, .if_icmp .ge 8, 74, 79, 0),
  (74, .iload 6, 76, 0, 0),
  (76, .goto 5, 79, 81, 0),
  (79, .iload 5, 81, 0, 0),
  (81, .istore 5, 83, 0, 0),
  (83, .iinc 6 1, 86, 0, 1),
  (86, .goto (-40), 89, 46, 0),
  (89, .iload 5, 91, 0, 0),
  (91, .ireturn, 92, 0, 0)]
set_option maxRecDepth 100000 in
theorem okX11_soonest : tf_okT cX11_soonest tX11_soonest := by unfold tf_okT; decide +kernel
theorem ftX11_soonest : 1 ≤ 7 ∧ tf_okF RX11 fX11 ∧ tf_okT cX11_soonest tX11_soonest := ⟨by decide, okfX11, okX11_soonest⟩
def mX11_soonest : tf_M := (yX11_soonest, cX11_soonest, 7, (some .int))

def tX11_image : tf_T := [(0, .iconst 0, 1, 0, 0),
  (1, .istore_n 1, 2, 0, 0),
  (2, .iload_n 1, 3, 0, 0),
  (3, .sipush 368, 6, 0, 368),
  (6, .if_icmp .ge 21, 9, 27, 0),
  (9, .aload_n 0, 10, 0, 0),
  (10, .getfield 16, 13, 0, 0),
  (13, .iload_n 1, 14, 0, 0),
  (14, .aload_n 0, 15, 0, 0),
  (15, .getfield 13, 18, 0, 0),
  (18, .iload_n 1, 19, 0, 0),
  (19, .iaload, 20, 0, 0),
  (20, .iastore, 21, 0, 0),
  (21, .iinc 1 1, 24, 0, 1),
  (24, .goto (-22), 27, 2, 0),
  (27, .aload_n 0, 28, 0, 0),
  (28, .iconst 1, 29, 0, 1),
  (29, .putfield 136, 32, 0, 0),
  (32, .aload_n 0, 33, 0, 0),
  (33, .getfield 13, 36, 0, 0),
  (36, .sipush 366, 39, 0, 366),
  (39, .iaload, 40, 0, 0),
  (40, .ireturn, 41, 0, 0)]
set_option maxRecDepth 100000 in
theorem okX11_image : tf_okT cX11_image tX11_image := by unfold tf_okT; decide +kernel
theorem ftX11_image : 1 ≤ 1 ∧ tf_okF RX11 fX11 ∧ tf_okT cX11_image tX11_image := ⟨by decide, okfX11, okX11_image⟩
def mX11_image : tf_M := (yX11_image, cX11_image, 2, (some .int))

def tX11_on : tf_T := [(0, .aload_n 0, 1, 0, 0),
  (1, .getfield 136, 4, 0, 0),
  (4, .ifCond .ne 10, 7, 14, 0),
  (7, .aload_n 0, 8, 0, 0),
  (8, .bipush (-3), 10, 0, (-3)),
  (10, .invokevirtual 26, 13, 0, 0),
  (13, .ireturn, 14, 0, 0),
  (14, .iconst 0, 15, 0, 0),
  (15, .istore_n 1, 16, 0, 0),
  (16, .iload_n 1, 17, 0, 0),
  (17, .sipush 368, 20, 0, 368),
  (20, .if_icmp .ge 21, 23, 41, 0),
  (23, .aload_n 0, 24, 0, 0),
  (24, .getfield 13, 27, 0, 0),
  (27, .iload_n 1, 28, 0, 0),
  (28, .aload_n 0, 29, 0, 0),
  (29, .getfield 16, 32, 0, 0),
  (32, .iload_n 1, 33, 0, 0),
  (33, .iaload, 34, 0, 0),
  (34, .iastore, 35, 0, 0),
  (35, .iinc 1 1, 38, 0, 1),
  (38, .goto (-22), 41, 16, 0),
  (41, .aload_n 0, 42, 0, 0),
  (42, .getfield 13, 45, 0, 0),
  (45, .sipush 366, 48, 0, 366),
  (48, .iaload, 49, 0, 0),
  (49, .ireturn, 50, 0, 0)]
set_option maxRecDepth 100000 in
theorem okX11_on : tf_okT cX11_on tX11_on := by unfold tf_okT; decide +kernel
theorem ftX11_on : 1 ≤ 2 ∧ tf_okF RX11 fX11 ∧ tf_okT cX11_on tX11_on := ⟨by decide, okfX11, okX11_on⟩
def mX11_on : tf_M := (yX11_on, cX11_on, 2, (some .int))

set_option maxRecDepth 100000 in
theorem lX11_129 : tf_okV RX11 129 2 8 mX11_acheAt := by unfold tf_okV tf_okL; decide +kernel

set_option maxHeartbeats 2000000 in
theorem p_may {G : tf_G} {S : tf_Sg} {o : Nat} {A : tf_A} (b : Int32) (ho : tf_mo G o) (hd : tf_md G o) (hA : tf_okA A) (hM : tf_ms G S o A)  : tf_pm mX11_may 4 G S o [.ref o, .int b] (s_may A b) := by
  obtain ⟨h1, ⟨r0, t0, n0⟩, ⟨r1, t1, n1⟩, ⟨r2, t2, n2⟩, ⟨r4, t4, n4⟩⟩ := id ho
  obtain ⟨hg, hb, hA3, hA4, hA5, hA6⟩ := id hA
  have hs := hM.1
  have hf : tf_sf G S o A.1 := ⟨hM.1, hb⟩
  obtain ⟨⟨g1, g2, g3, g4⟩, g5, g6, g7, g8, g9, g10, g11⟩ := id hg
  unfold s_may
  by_cases c0 : ¬ b < 0 ∧ ¬ 4 ≤ b
  · rw [if_pos c0]
    obtain ⟨b1, b1_lt, b1_eq, b1_cl⟩ := tf_ok_nI (N := 4) (show tf_ok b _ from c0) rfl (by decide)
    try rw [b1_cl]
    subst b1_eq
    refine ⟨S, tf_Fn_of (own := RX11) false ⟨by decide, rfl, by decide⟩ (Nat.le_of_ble_eq_true rfl) trivial (fun x hx hR => ?_), hM, tf_fm_id⟩
    show tf_K x 0 0 G S 0 [some (.ref o), some (.int (nI b1)), none, none] []
    refine tf_go hx ftX11_may 1 [] 1 [some (.ref o), some (.int (nI b1)), none, none] [.int (nI b1)] S rfl ⟨by decide, by decide, rfl⟩ trivial ?_
    refine tf_cS hx ftX11_may (nx := 4) (As := [.int (nI b1)]) (rest := []) (st2 := [.int (if ¬ (nI b1) < 0 ∧ ¬ 4 ≤ (nI b1) then 1 else 0)]) (m_isBoard (nI b1)) rfl lX11_40 rfl ⟨rfl, by decide, by decide, by decide, rfl, rfl⟩ ?_
    rw [if_pos c0]
    refine tf_go hx ftX11_may 1 [true] 13 [some (.ref o), some (.int (nI b1)), none, none] [] S rfl ⟨by decide, by decide, rfl⟩ ⟨trivial, (by decide)⟩ ?_
    refine tf_go hx ftX11_may 4 [] 17 [some (.ref o), some (.int (nI b1)), some (.int 0), some (.int 0)] [] S rfl ⟨by decide, by decide, rfl⟩ trivial ?_
    have loop : ∀ (m k : Nat) (q : Int32), k + m = 8 → (tf_my A.1 b1 m k q = tf_my A.1 b1 8 0 0) → tf_K x 0 0 G S 17 [some (.ref o), some (.int (nI b1)), some (.int q), some (.int (nI k))] [] := by
      intro m
      induction m with
      | zero =>
        intro k q hk he
        refine tf_go hx ftX11_may 2 [] 20 [some (.ref o), some (.int (nI b1)), some (.int q), some (.int (nI k))] [.int 8, .int (nI k)] S rfl ⟨by decide, by decide, rfl⟩ trivial ?_
        refine tf_go hx ftX11_may 2 [true] 49 [some (.ref o), some (.int (nI b1)), some (.int q), some (.int (nI k))] [.int q] S rfl ⟨by decide, by decide, rfl⟩ ⟨trivial, (tf_leT (a := 8) (b := k) (rfl : (8 : Int32) = nI 8) rfl (by omega) (by omega) (by omega))⟩ ?_
        exact tf_ret ftX11_may hR rfl ⟨by decide, by decide⟩ rfl rfl (by rw [← he]; rfl)
      | succ m ih =>
        intro k q hk he
        rw [tf_my_s] at he
        refine tf_go hx ftX11_may 2 [] 20 [some (.ref o), some (.int (nI b1)), some (.int q), some (.int (nI k))] [.int 8, .int (nI k)] S rfl ⟨by decide, by decide, rfl⟩ trivial ?_
        refine tf_go hx ftX11_may 1 [false] 23 [some (.ref o), some (.int (nI b1)), some (.int q), some (.int (nI k))] [] S rfl ⟨by decide, by decide, rfl⟩ ⟨trivial, (tf_leF (a := 8) (b := k) (rfl : (8 : Int32) = nI 8) rfl (by omega) (by omega) (by omega))⟩ ?_
        refine tf_go hx ftX11_may 4 [] 27 [some (.ref o), some (.int (nI b1)), some (.int q), some (.int (nI k))] [.int (nI k), .int (nI b1), .ref o, .int q] S rfl ⟨by decide, by decide, rfl⟩ trivial ?_
        refine tf_cV hx ftX11_may (nx := 30) (As := [.int (nI b1), .int (nI k)]) (rest := [.int q]) (st2 := [.int (tf_on 41 (tf_wo A.1 b1 k)), .int q]) (m_whereOf b1 k ho hf hg b1_lt (by omega)) rfl lX11_116 (by first | assumption | rfl | decide) rfl ⟨rfl, by decide, by decide, by decide, rfl, rfl⟩ ?_
        by_cases e1 : tf_wo A.1 b1 k < 41
        · rw [if_pos e1] at he
          rw [tf_on_y e1]
          refine tf_go hx ftX11_may 9 [false] 17 [some (.ref o), some (.int (nI b1)), some (.int (q ||| (1 <<< ((nI k) &&& 31)))), some (.int ((nI k) + 1))] [] S rfl ⟨by decide, by decide, rfl⟩ ⟨trivial, (tf_ltF (a := (tf_wo A.1 b1 k)) (b := 0) rfl (rfl : (0 : Int32) = nI 0) (by have := hb b1; omega) (by have := hb b1; omega) (by have := hb b1; omega))⟩ ?_
          rw [show ((nI k) + 1) = nI (k + 1) from (tf_add (a := k) (b := 1) rfl (rfl : (1 : Int32) = nI 1))]
          exact ih (k + 1) _ (by omega) he
        · rw [if_neg e1] at he
          rw [tf_on_n e1]
          refine tf_go hx ftX11_may 6 [true] 17 [some (.ref o), some (.int (nI b1)), some (.int (q ||| 0)), some (.int ((nI k) + 1))] [] S rfl ⟨by decide, by decide, rfl⟩ ⟨trivial, (by decide)⟩ ?_
          rw [show ((nI k) + 1) = nI (k + 1) from (tf_add (a := k) (b := 1) rfl (rfl : (1 : Int32) = nI 1))]
          rw [show (q ||| 0) = q from Int32.or_zero]
          exact ih (k + 1) q (by omega) he
    exact loop 8 0 0 rfl rfl
  · rw [if_neg (fun h => c0 h)]
    refine ⟨tf_rfS G S o 1, tf_Fn_of (own := RX11) false ⟨by decide, rfl, by decide⟩ (Nat.le_of_ble_eq_true rfl) trivial (fun x hx hR => ?_), tf_ms_ref ho hd hM 1, tf_fm_0⟩
    show tf_K x 0 0 G S 0 [some (.ref o), some (.int b), none, none] []
    refine tf_go hx ftX11_may 1 [] 1 [some (.ref o), some (.int b), none, none] [.int b] S rfl ⟨by decide, by decide, rfl⟩ trivial ?_
    refine tf_cS hx ftX11_may (nx := 4) (As := [.int b]) (rest := []) (st2 := [.int (if ¬ b < 0 ∧ ¬ 4 ≤ b then 1 else 0)]) (m_isBoard b) rfl lX11_40 rfl ⟨rfl, by decide, by decide, by decide, rfl, rfl⟩ ?_
    rw [if_neg c0]
    refine tf_go hx ftX11_may 1 [false] 7 [some (.ref o), some (.int b), none, none] [] S rfl ⟨by decide, by decide, rfl⟩ ⟨trivial, (by decide)⟩ ?_
    refine tf_go hx ftX11_may 2 [] 9 [some (.ref o), some (.int b), none, none] [.int (-1), .ref o] S rfl ⟨by decide, by decide, rfl⟩ trivial ?_
    refine tf_cV hx ftX11_may (nx := 12) (As := [.int (-1)]) (rest := []) (st2 := [.int (-1)]) (m_ref1 ho) rfl lX11_26 (by first | assumption | rfl | decide) rfl ⟨rfl, by decide, by decide, by decide, rfl, rfl⟩ ?_
    exact tf_ret ftX11_may hR rfl ⟨by decide, by decide⟩ rfl rfl rfl

set_option maxHeartbeats 2000000 in
theorem p_climb {G : tf_G} {S : tf_Sg} {o : Nat} {A : tf_A} (h b n : Int32) (ho : tf_mo G o) (hd : tf_md G o) (hA : tf_okA A) (hM : tf_ms G S o A)  : tf_pm mX11_climb 7 G S o [.ref o, .int h, .int b, .int n] (s_climb A h b n) := by
  obtain ⟨h1, ⟨r0, t0, n0⟩, ⟨r1, t1, n1⟩, ⟨r2, t2, n2⟩, ⟨r4, t4, n4⟩⟩ := id ho
  obtain ⟨hg, hb, hA3, hA4, hA5, hA6⟩ := id hA
  have hs := hM.1
  have hf : tf_sf G S o A.1 := ⟨hM.1, hb⟩
  obtain ⟨⟨g1, g2, g3, g4⟩, g5, g6, g7, g8, g9, g10, g11⟩ := id hg
  unfold s_climb
  by_cases c0 : ¬ h < 0 ∧ ¬ 4 ≤ h
  · by_cases c1 : ¬ b < 0 ∧ ¬ 4 ≤ b
    · rw [if_pos ⟨c0, c1⟩]
      obtain ⟨h1, h1_lt, h1_eq, h1_cl⟩ := tf_ok_nI (N := 4) (show tf_ok h _ from c0) rfl (by decide)
      try rw [h1_cl]
      obtain ⟨b1, b1_lt, b1_eq, b1_cl⟩ := tf_ok_nI (N := 4) (show tf_ok b _ from c1) rfl (by decide)
      try rw [b1_cl]
      subst h1_eq
      subst b1_eq
      by_cases e1 : ¬ 1 ≤ n
      · rw [if_pos e1]
        refine ⟨tf_rfS G S o 4, tf_Fn_of (own := RX11) false ⟨by decide, rfl, by decide⟩ (Nat.le_of_ble_eq_true rfl) trivial (fun x hx hR => ?_), tf_ms_ref ho hd hM 4, tf_fm_0⟩
        show tf_K x 0 0 G S 0 [some (.ref o), some (.int (nI h1)), some (.int (nI b1)), some (.int n), none, none, none] []
        refine tf_go hx ftX11_climb 1 [] 1 [some (.ref o), some (.int (nI h1)), some (.int (nI b1)), some (.int n), none, none, none] [.int (nI h1)] S rfl ⟨by decide, by decide, rfl⟩ trivial ?_
        refine tf_cS hx ftX11_climb (nx := 4) (As := [.int (nI h1)]) (rest := []) (st2 := [.int (if ¬ (nI h1) < 0 ∧ ¬ 4 ≤ (nI h1) then 1 else 0)]) (m_isHand (nI h1)) rfl lX11_62 rfl ⟨rfl, by decide, by decide, by decide, rfl, rfl⟩ ?_
        rw [if_pos c0]
        refine tf_go hx ftX11_climb 1 [false] 7 [some (.ref o), some (.int (nI h1)), some (.int (nI b1)), some (.int n), none, none, none] [] S rfl ⟨by decide, by decide, rfl⟩ ⟨trivial, (by decide)⟩ ?_
        refine tf_go hx ftX11_climb 1 [] 8 [some (.ref o), some (.int (nI h1)), some (.int (nI b1)), some (.int n), none, none, none] [.int (nI b1)] S rfl ⟨by decide, by decide, rfl⟩ trivial ?_
        refine tf_cS hx ftX11_climb (nx := 11) (As := [.int (nI b1)]) (rest := []) (st2 := [.int (if ¬ (nI b1) < 0 ∧ ¬ 4 ≤ (nI b1) then 1 else 0)]) (m_isBoard (nI b1)) rfl lX11_40 rfl ⟨rfl, by decide, by decide, by decide, rfl, rfl⟩ ?_
        rw [if_pos c1]
        refine tf_go hx ftX11_climb 1 [false] 14 [some (.ref o), some (.int (nI h1)), some (.int (nI b1)), some (.int n), none, none, none] [] S rfl ⟨by decide, by decide, rfl⟩ ⟨trivial, (by decide)⟩ ?_
        refine tf_go hx ftX11_climb 3 [] 17 [some (.ref o), some (.int (nI h1)), some (.int (nI b1)), some (.int n), none, none, none] [.int 5, .int 1, .int n] S rfl ⟨by decide, by decide, rfl⟩ trivial ?_
        refine tf_cS hx ftX11_climb (nx := 20) (As := [.int n, .int 1, .int 5]) (rest := []) (st2 := [.int (if ¬ 1 ≤ n then (-4) else if ¬ n ≤ 5 then (-6) else 0)]) (m_within n 1 5) rfl lX11_65 rfl ⟨rfl, by decide, by decide, by decide, rfl, rfl⟩ ?_
        rw [if_pos e1]
        refine tf_go hx ftX11_climb 3 [] 28 [some (.ref o), some (.int (nI h1)), some (.int (nI b1)), some (.int n), some (.int (-4)), none, none] [.int (-4)] S rfl ⟨by decide, by decide, rfl⟩ trivial ?_
        refine tf_go hx ftX11_climb 3 [false] 34 [some (.ref o), some (.int (nI h1)), some (.int (nI b1)), some (.int n), some (.int (-4)), none, none] [.int (-4), .ref o] S rfl ⟨by decide, by decide, rfl⟩ ⟨trivial, (by decide)⟩ ?_
        refine tf_cV hx ftX11_climb (nx := 37) (As := [.int (-4)]) (rest := []) (st2 := [.int (-4)]) (m_ref4 ho) rfl lX11_26 (by first | assumption | rfl | decide) rfl ⟨rfl, by decide, by decide, by decide, rfl, rfl⟩ ?_
        exact tf_ret ftX11_climb hR rfl ⟨by decide, by decide⟩ rfl rfl rfl
      · by_cases e2 : ¬ n ≤ 5
        · rw [if_neg e1, if_pos e2]
          refine ⟨tf_rfS G S o 6, tf_Fn_of (own := RX11) false ⟨by decide, rfl, by decide⟩ (Nat.le_of_ble_eq_true rfl) trivial (fun x hx hR => ?_), tf_ms_ref ho hd hM 6, tf_fm_0⟩
          show tf_K x 0 0 G S 0 [some (.ref o), some (.int (nI h1)), some (.int (nI b1)), some (.int n), none, none, none] []
          refine tf_go hx ftX11_climb 1 [] 1 [some (.ref o), some (.int (nI h1)), some (.int (nI b1)), some (.int n), none, none, none] [.int (nI h1)] S rfl ⟨by decide, by decide, rfl⟩ trivial ?_
          refine tf_cS hx ftX11_climb (nx := 4) (As := [.int (nI h1)]) (rest := []) (st2 := [.int (if ¬ (nI h1) < 0 ∧ ¬ 4 ≤ (nI h1) then 1 else 0)]) (m_isHand (nI h1)) rfl lX11_62 rfl ⟨rfl, by decide, by decide, by decide, rfl, rfl⟩ ?_
          rw [if_pos c0]
          refine tf_go hx ftX11_climb 1 [false] 7 [some (.ref o), some (.int (nI h1)), some (.int (nI b1)), some (.int n), none, none, none] [] S rfl ⟨by decide, by decide, rfl⟩ ⟨trivial, (by decide)⟩ ?_
          refine tf_go hx ftX11_climb 1 [] 8 [some (.ref o), some (.int (nI h1)), some (.int (nI b1)), some (.int n), none, none, none] [.int (nI b1)] S rfl ⟨by decide, by decide, rfl⟩ trivial ?_
          refine tf_cS hx ftX11_climb (nx := 11) (As := [.int (nI b1)]) (rest := []) (st2 := [.int (if ¬ (nI b1) < 0 ∧ ¬ 4 ≤ (nI b1) then 1 else 0)]) (m_isBoard (nI b1)) rfl lX11_40 rfl ⟨rfl, by decide, by decide, by decide, rfl, rfl⟩ ?_
          rw [if_pos c1]
          refine tf_go hx ftX11_climb 1 [false] 14 [some (.ref o), some (.int (nI h1)), some (.int (nI b1)), some (.int n), none, none, none] [] S rfl ⟨by decide, by decide, rfl⟩ ⟨trivial, (by decide)⟩ ?_
          refine tf_go hx ftX11_climb 3 [] 17 [some (.ref o), some (.int (nI h1)), some (.int (nI b1)), some (.int n), none, none, none] [.int 5, .int 1, .int n] S rfl ⟨by decide, by decide, rfl⟩ trivial ?_
          refine tf_cS hx ftX11_climb (nx := 20) (As := [.int n, .int 1, .int 5]) (rest := []) (st2 := [.int (if ¬ 1 ≤ n then (-4) else if ¬ n ≤ 5 then (-6) else 0)]) (m_within n 1 5) rfl lX11_65 rfl ⟨rfl, by decide, by decide, by decide, rfl, rfl⟩ ?_
          rw [if_neg e1, if_pos e2]
          refine tf_go hx ftX11_climb 3 [] 28 [some (.ref o), some (.int (nI h1)), some (.int (nI b1)), some (.int n), some (.int (-6)), none, none] [.int (-6)] S rfl ⟨by decide, by decide, rfl⟩ trivial ?_
          refine tf_go hx ftX11_climb 3 [false] 34 [some (.ref o), some (.int (nI h1)), some (.int (nI b1)), some (.int n), some (.int (-6)), none, none] [.int (-6), .ref o] S rfl ⟨by decide, by decide, rfl⟩ ⟨trivial, (by decide)⟩ ?_
          refine tf_cV hx ftX11_climb (nx := 37) (As := [.int (-6)]) (rest := []) (st2 := [.int (-6)]) (m_ref6 ho) rfl lX11_26 (by first | assumption | rfl | decide) rfl ⟨rfl, by decide, by decide, by decide, rfl, rfl⟩ ?_
          exact tf_ret ftX11_climb hR rfl ⟨by decide, by decide⟩ rfl rfl rfl
        · rw [if_neg e1, if_neg e2]
          obtain ⟨n1, n1_le, n1_eq⟩ := nI_of2 (M := 5) (n := 5) (x := n) (by decide) (fun h => e1 (fun h2 => absurd (Int32.lt_of_lt_of_le h (by decide)) (Int32.not_lt.mpr h2))) (Classical.not_not.mp e2)
          have n1_cl : n.toNatClampNeg = n1 := by rw [n1_eq]; exact tf_cl_nI (by omega)
          rw [n1_cl]
          subst n1_eq
          refine ⟨tf_rw S (tf_rf G o 1) (tf_cm h1 b1 n1 0 A.1).2, tf_Fn_of (own := RX11) false ⟨by decide, rfl, by decide⟩ (Nat.le_of_ble_eq_true rfl) trivial (fun x hx hR => ?_), tf_ms_rw ho hd hM _, tf_fm_1⟩
          show tf_K x 0 0 G S 0 [some (.ref o), some (.int (nI h1)), some (.int (nI b1)), some (.int (nI n1)), none, none, none] []
          refine tf_go hx ftX11_climb 1 [] 1 [some (.ref o), some (.int (nI h1)), some (.int (nI b1)), some (.int (nI n1)), none, none, none] [.int (nI h1)] S rfl ⟨by decide, by decide, rfl⟩ trivial ?_
          refine tf_cS hx ftX11_climb (nx := 4) (As := [.int (nI h1)]) (rest := []) (st2 := [.int (if ¬ (nI h1) < 0 ∧ ¬ 4 ≤ (nI h1) then 1 else 0)]) (m_isHand (nI h1)) rfl lX11_62 rfl ⟨rfl, by decide, by decide, by decide, rfl, rfl⟩ ?_
          rw [if_pos c0]
          refine tf_go hx ftX11_climb 1 [false] 7 [some (.ref o), some (.int (nI h1)), some (.int (nI b1)), some (.int (nI n1)), none, none, none] [] S rfl ⟨by decide, by decide, rfl⟩ ⟨trivial, (by decide)⟩ ?_
          refine tf_go hx ftX11_climb 1 [] 8 [some (.ref o), some (.int (nI h1)), some (.int (nI b1)), some (.int (nI n1)), none, none, none] [.int (nI b1)] S rfl ⟨by decide, by decide, rfl⟩ trivial ?_
          refine tf_cS hx ftX11_climb (nx := 11) (As := [.int (nI b1)]) (rest := []) (st2 := [.int (if ¬ (nI b1) < 0 ∧ ¬ 4 ≤ (nI b1) then 1 else 0)]) (m_isBoard (nI b1)) rfl lX11_40 rfl ⟨rfl, by decide, by decide, by decide, rfl, rfl⟩ ?_
          rw [if_pos c1]
          refine tf_go hx ftX11_climb 1 [false] 14 [some (.ref o), some (.int (nI h1)), some (.int (nI b1)), some (.int (nI n1)), none, none, none] [] S rfl ⟨by decide, by decide, rfl⟩ ⟨trivial, (by decide)⟩ ?_
          refine tf_go hx ftX11_climb 3 [] 17 [some (.ref o), some (.int (nI h1)), some (.int (nI b1)), some (.int (nI n1)), none, none, none] [.int 5, .int 1, .int (nI n1)] S rfl ⟨by decide, by decide, rfl⟩ trivial ?_
          refine tf_cS hx ftX11_climb (nx := 20) (As := [.int (nI n1), .int 1, .int 5]) (rest := []) (st2 := [.int (if ¬ 1 ≤ (nI n1) then (-4) else if ¬ (nI n1) ≤ 5 then (-6) else 0)]) (m_within (nI n1) 1 5) rfl lX11_65 rfl ⟨rfl, by decide, by decide, by decide, rfl, rfl⟩ ?_
          rw [if_neg e1, if_neg e2]
          refine tf_go hx ftX11_climb 3 [] 28 [some (.ref o), some (.int (nI h1)), some (.int (nI b1)), some (.int (nI n1)), some (.int 0), none, none] [.int 0] S rfl ⟨by decide, by decide, rfl⟩ trivial ?_
          refine tf_go hx ftX11_climb 3 [true] 41 [some (.ref o), some (.int (nI h1)), some (.int (nI b1)), some (.int (nI n1)), some (.int 0), some (.int 0), none] [] S rfl ⟨by decide, by decide, rfl⟩ ⟨trivial, (by decide)⟩ ?_
          refine tf_fgt [some (.ref o), some (.int (nI h1)), some (.int (nI b1)), some (.int (nI n1)), none, some (.int 0), none] (by simp [tf_lss]) ?_
          have hid : tf_rw S (tf_rf G o 1) A.1 = S := tf_rw_id hs
          have loop : ∀ (m k : Nat) (F : Nat → Nat), k + m = n1 → (tf_cm h1 b1 m k F = tf_cm h1 b1 n1 0 A.1) → (tf_gd F) → (∀ j, F j < 10000) → tf_K x 0 0 G (tf_rw S (tf_rf G o 1) F) 41 [some (.ref o), some (.int (nI h1)), some (.int (nI b1)), some (.int (nI n1)), none, some (.int (nI k)), none] [] := by
            intro m
            induction m with
            | zero =>
              intro k F hk he hF hF2
              refine tf_go hx ftX11_climb 2 [] 44 [some (.ref o), some (.int (nI h1)), some (.int (nI b1)), some (.int (nI n1)), none, some (.int (nI k)), none] [.int (nI n1), .int (nI k)] (tf_rw S (tf_rf G o 1) F) rfl ⟨by decide, by decide, rfl⟩ trivial ?_
              refine tf_go hx ftX11_climb 2 [true] 85 [some (.ref o), some (.int (nI h1)), some (.int (nI b1)), some (.int (nI n1)), none, some (.int (nI k)), none] [.int (nI n1)] (tf_rw S (tf_rf G o 1) F) rfl ⟨by decide, by decide, rfl⟩ ⟨trivial, (tf_leT (a := n1) (b := k) rfl rfl (by omega) (by omega) (by omega))⟩ ?_
              exact tf_ret ftX11_climb hR rfl ⟨by decide, by decide⟩ rfl (by rw [← he]; rfl) (by rw [← he, show n1 = k by omega]; rfl)
            | succ m ih =>
              intro k F hk he hF hF2
              rw [tf_cm_s] at he
              have hsf : tf_sf G (tf_rw S (tf_rf G o 1) F) o F := ⟨tf_rw_a, hF2⟩
              refine tf_go hx ftX11_climb 2 [] 44 [some (.ref o), some (.int (nI h1)), some (.int (nI b1)), some (.int (nI n1)), none, some (.int (nI k)), none] [.int (nI n1), .int (nI k)] (tf_rw S (tf_rf G o 1) F) rfl ⟨by decide, by decide, rfl⟩ trivial ?_
              refine tf_go hx ftX11_climb 1 [false] 47 [some (.ref o), some (.int (nI h1)), some (.int (nI b1)), some (.int (nI n1)), none, some (.int (nI k)), none] [] (tf_rw S (tf_rf G o 1) F) rfl ⟨by decide, by decide, rfl⟩ ⟨trivial, (tf_leF (a := n1) (b := k) rfl rfl (by omega) (by omega) (by omega))⟩ ?_
              refine tf_go hx ftX11_climb 3 [] 50 [some (.ref o), some (.int (nI h1)), some (.int (nI b1)), some (.int (nI n1)), none, some (.int (nI k)), none] [.int (nI b1), .int (nI h1), .ref o] (tf_rw S (tf_rf G o 1) F) rfl ⟨by decide, by decide, rfl⟩ trivial ?_
              refine tf_cV hx ftX11_climb (nx := 53) (As := [.int (nI h1), .int (nI b1)]) (rest := []) (st2 := [.int (tf_on 3000 (tf_be F h1 b1))]) (m_betterOf h1 b1 ho hsf hF h1_lt b1_lt) rfl lX11_123 (by first | assumption | rfl | decide) rfl ⟨rfl, by decide, by decide, by decide, rfl, rfl⟩ ?_
              by_cases d1 : tf_be F h1 b1 < 3000
              · rw [if_pos d1] at he
                rw [tf_on_y d1]
                have bo := (tf_be_ok F h1 b1).resolve_left (by omega)
                generalize tf_be F h1 b1 = q at *
                refine tf_go hx ftX11_climb 11 [true] 75 [some (.ref o), some (.int (nI h1)), some (.int (nI b1)), some (.int (nI n1)), none, some (.int (nI k)), some (.int (nI q))] [.int ((nI q) - (nI q) / 100 * 100), .int ((nI q) / 100), .int (nI b1), .ref o] (tf_rw S (tf_rf G o 1) F) rfl ⟨by decide, by decide, rfl⟩ ⟨⟨⟨trivial, (tf_leT (a := 0) (b := q) (rfl : (0 : Int32) = nI 0) rfl (by omega) (by omega) (by omega))⟩, (by decide)⟩, (by decide)⟩ ?_
                rw [show ((nI q) - (nI q) / 100 * 100) = nI (q % 100) from (tf_rem (a := q) (d := 100) rfl (rfl : (100 : Int32) = nI 100) (by omega) (by omega) (by omega))]
                rw [show ((nI q) / 100) = nI (q / 100) from (tf_div (a := q) (d := 100) rfl (rfl : (100 : Int32) = nI 100) (by omega) (by omega) (by omega))]
                refine tf_cV hx ftX11_climb (nx := 78) (As := [.int (nI b1), .int (nI (q / 100)), .int (nI (q % 100))]) (rest := []) (st2 := []) ((by have h := m_changes b1 (q / 100) (q % 100) ho hsf b1_lt (by omega) (by omega); rw [tf_rw_rw] at h; exact h)) rfl lX11_119 (by first | assumption | rfl | decide) rfl ⟨rfl, by decide, by decide, by decide, rfl, rfl⟩ ?_
                refine tf_go hx ftX11_climb 2 [] 41 [some (.ref o), some (.int (nI h1)), some (.int (nI b1)), some (.int (nI n1)), none, some (.int ((nI k) + 1)), some (.int (nI q))] [] (tf_rw S (tf_rf G o 1) (tf_ex F b1 (q / 100) (q % 100))) rfl ⟨by decide, by decide, rfl⟩ trivial ?_
                rw [show ((nI k) + 1) = nI (k + 1) from (tf_add (a := k) (b := 1) rfl (rfl : (1 : Int32) = nI 1))]
                refine tf_fgt [some (.ref o), some (.int (nI h1)), some (.int (nI b1)), some (.int (nI n1)), none, some (.int (nI (k + 1))), none] (by simp [tf_lss]) ?_
                exact ih (k + 1) (tf_ex F b1 (q / 100) (q % 100)) (by omega) he (tf_ex_gd hF b1_lt (by omega) (by omega)) (tf_ex_le hF2)
              · rw [if_neg d1] at he
                rw [tf_on_n d1]
                refine tf_go hx ftX11_climb 4 [false] 62 [some (.ref o), some (.int (nI h1)), some (.int (nI b1)), some (.int (nI n1)), none, some (.int (nI k)), some (.int (-9))] [.int (nI k)] (tf_rw S (tf_rf G o 1) F) rfl ⟨by decide, by decide, rfl⟩ ⟨trivial, (by decide)⟩ ?_
                exact tf_ret ftX11_climb hR rfl ⟨by decide, by decide⟩ rfl (by rw [← he]) (by rw [← he]; rfl)
          have h0 := loop n1 0 A.1 (by omega) rfl hg hb
          rw [hid] at h0
          exact h0
    · rw [if_neg (fun h => c1 h.2)]
      refine ⟨tf_rfS G S o 1, tf_Fn_of (own := RX11) false ⟨by decide, rfl, by decide⟩ (Nat.le_of_ble_eq_true rfl) trivial (fun x hx hR => ?_), tf_ms_ref ho hd hM 1, tf_fm_0⟩
      show tf_K x 0 0 G S 0 [some (.ref o), some (.int h), some (.int b), some (.int n), none, none, none] []
      refine tf_go hx ftX11_climb 1 [] 1 [some (.ref o), some (.int h), some (.int b), some (.int n), none, none, none] [.int h] S rfl ⟨by decide, by decide, rfl⟩ trivial ?_
      refine tf_cS hx ftX11_climb (nx := 4) (As := [.int h]) (rest := []) (st2 := [.int (if ¬ h < 0 ∧ ¬ 4 ≤ h then 1 else 0)]) (m_isHand h) rfl lX11_62 rfl ⟨rfl, by decide, by decide, by decide, rfl, rfl⟩ ?_
      rw [if_pos c0]
      refine tf_go hx ftX11_climb 1 [false] 7 [some (.ref o), some (.int h), some (.int b), some (.int n), none, none, none] [] S rfl ⟨by decide, by decide, rfl⟩ ⟨trivial, (by decide)⟩ ?_
      refine tf_go hx ftX11_climb 1 [] 8 [some (.ref o), some (.int h), some (.int b), some (.int n), none, none, none] [.int b] S rfl ⟨by decide, by decide, rfl⟩ trivial ?_
      refine tf_cS hx ftX11_climb (nx := 11) (As := [.int b]) (rest := []) (st2 := [.int (if ¬ b < 0 ∧ ¬ 4 ≤ b then 1 else 0)]) (m_isBoard b) rfl lX11_40 rfl ⟨rfl, by decide, by decide, by decide, rfl, rfl⟩ ?_
      rw [if_neg c1]
      refine tf_go hx ftX11_climb 1 [true] 23 [some (.ref o), some (.int h), some (.int b), some (.int n), none, none, none] [] S rfl ⟨by decide, by decide, rfl⟩ ⟨trivial, (by decide)⟩ ?_
      refine tf_go hx ftX11_climb 3 [] 28 [some (.ref o), some (.int h), some (.int b), some (.int n), some (.int (-1)), none, none] [.int (-1)] S rfl ⟨by decide, by decide, rfl⟩ trivial ?_
      refine tf_go hx ftX11_climb 3 [false] 34 [some (.ref o), some (.int h), some (.int b), some (.int n), some (.int (-1)), none, none] [.int (-1), .ref o] S rfl ⟨by decide, by decide, rfl⟩ ⟨trivial, (by decide)⟩ ?_
      refine tf_cV hx ftX11_climb (nx := 37) (As := [.int (-1)]) (rest := []) (st2 := [.int (-1)]) (m_ref1 ho) rfl lX11_26 (by first | assumption | rfl | decide) rfl ⟨rfl, by decide, by decide, by decide, rfl, rfl⟩ ?_
      exact tf_ret ftX11_climb hR rfl ⟨by decide, by decide⟩ rfl rfl rfl
  · rw [if_neg (fun h => c0 h.1)]
    refine ⟨tf_rfS G S o 1, tf_Fn_of (own := RX11) false ⟨by decide, rfl, by decide⟩ (Nat.le_of_ble_eq_true rfl) trivial (fun x hx hR => ?_), tf_ms_ref ho hd hM 1, tf_fm_0⟩
    show tf_K x 0 0 G S 0 [some (.ref o), some (.int h), some (.int b), some (.int n), none, none, none] []
    refine tf_go hx ftX11_climb 1 [] 1 [some (.ref o), some (.int h), some (.int b), some (.int n), none, none, none] [.int h] S rfl ⟨by decide, by decide, rfl⟩ trivial ?_
    refine tf_cS hx ftX11_climb (nx := 4) (As := [.int h]) (rest := []) (st2 := [.int (if ¬ h < 0 ∧ ¬ 4 ≤ h then 1 else 0)]) (m_isHand h) rfl lX11_62 rfl ⟨rfl, by decide, by decide, by decide, rfl, rfl⟩ ?_
    rw [if_neg c0]
    refine tf_go hx ftX11_climb 1 [true] 23 [some (.ref o), some (.int h), some (.int b), some (.int n), none, none, none] [] S rfl ⟨by decide, by decide, rfl⟩ ⟨trivial, (by decide)⟩ ?_
    refine tf_go hx ftX11_climb 3 [] 28 [some (.ref o), some (.int h), some (.int b), some (.int n), some (.int (-1)), none, none] [.int (-1)] S rfl ⟨by decide, by decide, rfl⟩ trivial ?_
    refine tf_go hx ftX11_climb 3 [false] 34 [some (.ref o), some (.int h), some (.int b), some (.int n), some (.int (-1)), none, none] [.int (-1), .ref o] S rfl ⟨by decide, by decide, rfl⟩ ⟨trivial, (by decide)⟩ ?_
    refine tf_cV hx ftX11_climb (nx := 37) (As := [.int (-1)]) (rest := []) (st2 := [.int (-1)]) (m_ref1 ho) rfl lX11_26 (by first | assumption | rfl | decide) rfl ⟨rfl, by decide, by decide, by decide, rfl, rfl⟩ ?_
    exact tf_ret ftX11_climb hR rfl ⟨by decide, by decide⟩ rfl rfl rfl

set_option maxHeartbeats 2000000 in
theorem p_soonest {G : tf_G} {S : tf_Sg} {o : Nat} {A : tf_A} (h b d : Int32) (ho : tf_mo G o) (hd : tf_md G o) (hA : tf_okA A) (hM : tf_ms G S o A)  : tf_pm mX11_soonest 7 G S o [.ref o, .int h, .int b, .int d] (s_soonest A h b d) := by
  obtain ⟨h1, ⟨r0, t0, n0⟩, ⟨r1, t1, n1⟩, ⟨r2, t2, n2⟩, ⟨r4, t4, n4⟩⟩ := id ho
  obtain ⟨hg, hb, hA3, hA4, hA5, hA6⟩ := id hA
  have hs := hM.1
  have hf : tf_sf G S o A.1 := ⟨hM.1, hb⟩
  obtain ⟨⟨g1, g2, g3, g4⟩, g5, g6, g7, g8, g9, g10, g11⟩ := id hg
  unfold s_soonest
  by_cases c0 : ¬ h < 0 ∧ ¬ 4 ≤ h
  · by_cases c1 : ¬ b < 0 ∧ ¬ 4 ≤ b
    · rw [if_pos ⟨c0, c1⟩]
      obtain ⟨h1, h1_lt, h1_eq, h1_cl⟩ := tf_ok_nI (N := 4) (show tf_ok h _ from c0) rfl (by decide)
      try rw [h1_cl]
      obtain ⟨b1, b1_lt, b1_eq, b1_cl⟩ := tf_ok_nI (N := 4) (show tf_ok b _ from c1) rfl (by decide)
      try rw [b1_cl]
      subst h1_eq
      subst b1_eq
      by_cases e1 : ¬ 0 ≤ d
      · rw [if_pos e1]
        refine ⟨tf_rfS G S o 4, tf_Fn_of (own := RX11) false ⟨by decide, rfl, by decide⟩ (Nat.le_of_ble_eq_true rfl) trivial (fun x hx hR => ?_), tf_ms_ref ho hd hM 4, tf_fm_0⟩
        show tf_K x 0 0 G S 0 [some (.ref o), some (.int (nI h1)), some (.int (nI b1)), some (.int d), none, none, none] []
        refine tf_go hx ftX11_soonest 1 [] 1 [some (.ref o), some (.int (nI h1)), some (.int (nI b1)), some (.int d), none, none, none] [.int (nI h1)] S rfl ⟨by decide, by decide, rfl⟩ trivial ?_
        refine tf_cS hx ftX11_soonest (nx := 4) (As := [.int (nI h1)]) (rest := []) (st2 := [.int (if ¬ (nI h1) < 0 ∧ ¬ 4 ≤ (nI h1) then 1 else 0)]) (m_isHand (nI h1)) rfl lX11_62 rfl ⟨rfl, by decide, by decide, by decide, rfl, rfl⟩ ?_
        rw [if_pos c0]
        refine tf_go hx ftX11_soonest 1 [false] 7 [some (.ref o), some (.int (nI h1)), some (.int (nI b1)), some (.int d), none, none, none] [] S rfl ⟨by decide, by decide, rfl⟩ ⟨trivial, (by decide)⟩ ?_
        refine tf_go hx ftX11_soonest 1 [] 8 [some (.ref o), some (.int (nI h1)), some (.int (nI b1)), some (.int d), none, none, none] [.int (nI b1)] S rfl ⟨by decide, by decide, rfl⟩ trivial ?_
        refine tf_cS hx ftX11_soonest (nx := 11) (As := [.int (nI b1)]) (rest := []) (st2 := [.int (if ¬ (nI b1) < 0 ∧ ¬ 4 ≤ (nI b1) then 1 else 0)]) (m_isBoard (nI b1)) rfl lX11_40 rfl ⟨rfl, by decide, by decide, by decide, rfl, rfl⟩ ?_
        rw [if_pos c1]
        refine tf_go hx ftX11_soonest 1 [false] 14 [some (.ref o), some (.int (nI h1)), some (.int (nI b1)), some (.int d), none, none, none] [] S rfl ⟨by decide, by decide, rfl⟩ ⟨trivial, (by decide)⟩ ?_
        refine tf_go hx ftX11_soonest 3 [] 19 [some (.ref o), some (.int (nI h1)), some (.int (nI b1)), some (.int d), none, none, none] [.int 9999, .int 0, .int d] S rfl ⟨by decide, by decide, rfl⟩ trivial ?_
        refine tf_cS hx ftX11_soonest (nx := 22) (As := [.int d, .int 0, .int 9999]) (rest := []) (st2 := [.int (if ¬ 0 ≤ d then (-4) else if ¬ d ≤ 9999 then (-6) else 0)]) (m_within d 0 9999) rfl lX11_65 rfl ⟨rfl, by decide, by decide, by decide, rfl, rfl⟩ ?_
        rw [if_pos e1]
        refine tf_go hx ftX11_soonest 3 [] 30 [some (.ref o), some (.int (nI h1)), some (.int (nI b1)), some (.int d), some (.int (-4)), none, none] [.int (-4)] S rfl ⟨by decide, by decide, rfl⟩ trivial ?_
        refine tf_go hx ftX11_soonest 3 [false] 36 [some (.ref o), some (.int (nI h1)), some (.int (nI b1)), some (.int d), some (.int (-4)), none, none] [.int (-4), .ref o] S rfl ⟨by decide, by decide, rfl⟩ ⟨trivial, (by decide)⟩ ?_
        refine tf_cV hx ftX11_soonest (nx := 39) (As := [.int (-4)]) (rest := []) (st2 := [.int (-4)]) (m_ref4 ho) rfl lX11_26 (by first | assumption | rfl | decide) rfl ⟨rfl, by decide, by decide, by decide, rfl, rfl⟩ ?_
        exact tf_ret ftX11_soonest hR rfl ⟨by decide, by decide⟩ rfl rfl rfl
      · by_cases e2 : ¬ d ≤ 9999
        · rw [if_neg e1, if_pos e2]
          refine ⟨tf_rfS G S o 6, tf_Fn_of (own := RX11) false ⟨by decide, rfl, by decide⟩ (Nat.le_of_ble_eq_true rfl) trivial (fun x hx hR => ?_), tf_ms_ref ho hd hM 6, tf_fm_0⟩
          show tf_K x 0 0 G S 0 [some (.ref o), some (.int (nI h1)), some (.int (nI b1)), some (.int d), none, none, none] []
          refine tf_go hx ftX11_soonest 1 [] 1 [some (.ref o), some (.int (nI h1)), some (.int (nI b1)), some (.int d), none, none, none] [.int (nI h1)] S rfl ⟨by decide, by decide, rfl⟩ trivial ?_
          refine tf_cS hx ftX11_soonest (nx := 4) (As := [.int (nI h1)]) (rest := []) (st2 := [.int (if ¬ (nI h1) < 0 ∧ ¬ 4 ≤ (nI h1) then 1 else 0)]) (m_isHand (nI h1)) rfl lX11_62 rfl ⟨rfl, by decide, by decide, by decide, rfl, rfl⟩ ?_
          rw [if_pos c0]
          refine tf_go hx ftX11_soonest 1 [false] 7 [some (.ref o), some (.int (nI h1)), some (.int (nI b1)), some (.int d), none, none, none] [] S rfl ⟨by decide, by decide, rfl⟩ ⟨trivial, (by decide)⟩ ?_
          refine tf_go hx ftX11_soonest 1 [] 8 [some (.ref o), some (.int (nI h1)), some (.int (nI b1)), some (.int d), none, none, none] [.int (nI b1)] S rfl ⟨by decide, by decide, rfl⟩ trivial ?_
          refine tf_cS hx ftX11_soonest (nx := 11) (As := [.int (nI b1)]) (rest := []) (st2 := [.int (if ¬ (nI b1) < 0 ∧ ¬ 4 ≤ (nI b1) then 1 else 0)]) (m_isBoard (nI b1)) rfl lX11_40 rfl ⟨rfl, by decide, by decide, by decide, rfl, rfl⟩ ?_
          rw [if_pos c1]
          refine tf_go hx ftX11_soonest 1 [false] 14 [some (.ref o), some (.int (nI h1)), some (.int (nI b1)), some (.int d), none, none, none] [] S rfl ⟨by decide, by decide, rfl⟩ ⟨trivial, (by decide)⟩ ?_
          refine tf_go hx ftX11_soonest 3 [] 19 [some (.ref o), some (.int (nI h1)), some (.int (nI b1)), some (.int d), none, none, none] [.int 9999, .int 0, .int d] S rfl ⟨by decide, by decide, rfl⟩ trivial ?_
          refine tf_cS hx ftX11_soonest (nx := 22) (As := [.int d, .int 0, .int 9999]) (rest := []) (st2 := [.int (if ¬ 0 ≤ d then (-4) else if ¬ d ≤ 9999 then (-6) else 0)]) (m_within d 0 9999) rfl lX11_65 rfl ⟨rfl, by decide, by decide, by decide, rfl, rfl⟩ ?_
          rw [if_neg e1, if_pos e2]
          refine tf_go hx ftX11_soonest 3 [] 30 [some (.ref o), some (.int (nI h1)), some (.int (nI b1)), some (.int d), some (.int (-6)), none, none] [.int (-6)] S rfl ⟨by decide, by decide, rfl⟩ trivial ?_
          refine tf_go hx ftX11_soonest 3 [false] 36 [some (.ref o), some (.int (nI h1)), some (.int (nI b1)), some (.int d), some (.int (-6)), none, none] [.int (-6), .ref o] S rfl ⟨by decide, by decide, rfl⟩ ⟨trivial, (by decide)⟩ ?_
          refine tf_cV hx ftX11_soonest (nx := 39) (As := [.int (-6)]) (rest := []) (st2 := [.int (-6)]) (m_ref6 ho) rfl lX11_26 (by first | assumption | rfl | decide) rfl ⟨rfl, by decide, by decide, by decide, rfl, rfl⟩ ?_
          exact tf_ret ftX11_soonest hR rfl ⟨by decide, by decide⟩ rfl rfl rfl
        · rw [if_neg e1, if_neg e2]
          obtain ⟨d1, d1_le, d1_eq⟩ := nI_of2 (M := 9999) (n := 9999) (x := d) (by decide) (fun h => e1 (fun h2 => absurd h (Int32.not_lt.mpr h2))) (Classical.not_not.mp e2)
          have d1_cl : d.toNatClampNeg = d1 := by rw [d1_eq]; exact tf_cl_nI (by omega)
          rw [d1_cl]
          subst d1_eq
          refine ⟨S, tf_Fn_of (own := RX11) false ⟨by decide, rfl, by decide⟩ (Nat.le_of_ble_eq_true rfl) trivial (fun x hx hR => ?_), hM, tf_fm_id⟩
          show tf_K x 0 0 G S 0 [some (.ref o), some (.int (nI h1)), some (.int (nI b1)), some (.int (nI d1)), none, none, none] []
          refine tf_go hx ftX11_soonest 1 [] 1 [some (.ref o), some (.int (nI h1)), some (.int (nI b1)), some (.int (nI d1)), none, none, none] [.int (nI h1)] S rfl ⟨by decide, by decide, rfl⟩ trivial ?_
          refine tf_cS hx ftX11_soonest (nx := 4) (As := [.int (nI h1)]) (rest := []) (st2 := [.int (if ¬ (nI h1) < 0 ∧ ¬ 4 ≤ (nI h1) then 1 else 0)]) (m_isHand (nI h1)) rfl lX11_62 rfl ⟨rfl, by decide, by decide, by decide, rfl, rfl⟩ ?_
          rw [if_pos c0]
          refine tf_go hx ftX11_soonest 1 [false] 7 [some (.ref o), some (.int (nI h1)), some (.int (nI b1)), some (.int (nI d1)), none, none, none] [] S rfl ⟨by decide, by decide, rfl⟩ ⟨trivial, (by decide)⟩ ?_
          refine tf_go hx ftX11_soonest 1 [] 8 [some (.ref o), some (.int (nI h1)), some (.int (nI b1)), some (.int (nI d1)), none, none, none] [.int (nI b1)] S rfl ⟨by decide, by decide, rfl⟩ trivial ?_
          refine tf_cS hx ftX11_soonest (nx := 11) (As := [.int (nI b1)]) (rest := []) (st2 := [.int (if ¬ (nI b1) < 0 ∧ ¬ 4 ≤ (nI b1) then 1 else 0)]) (m_isBoard (nI b1)) rfl lX11_40 rfl ⟨rfl, by decide, by decide, by decide, rfl, rfl⟩ ?_
          rw [if_pos c1]
          refine tf_go hx ftX11_soonest 1 [false] 14 [some (.ref o), some (.int (nI h1)), some (.int (nI b1)), some (.int (nI d1)), none, none, none] [] S rfl ⟨by decide, by decide, rfl⟩ ⟨trivial, (by decide)⟩ ?_
          refine tf_go hx ftX11_soonest 3 [] 19 [some (.ref o), some (.int (nI h1)), some (.int (nI b1)), some (.int (nI d1)), none, none, none] [.int 9999, .int 0, .int (nI d1)] S rfl ⟨by decide, by decide, rfl⟩ trivial ?_
          refine tf_cS hx ftX11_soonest (nx := 22) (As := [.int (nI d1), .int 0, .int 9999]) (rest := []) (st2 := [.int (if ¬ 0 ≤ (nI d1) then (-4) else if ¬ (nI d1) ≤ 9999 then (-6) else 0)]) (m_within (nI d1) 0 9999) rfl lX11_65 rfl ⟨rfl, by decide, by decide, by decide, rfl, rfl⟩ ?_
          rw [if_neg e1, if_neg e2]
          refine tf_go hx ftX11_soonest 3 [] 30 [some (.ref o), some (.int (nI h1)), some (.int (nI b1)), some (.int (nI d1)), some (.int 0), none, none] [.int 0] S rfl ⟨by decide, by decide, rfl⟩ trivial ?_
          refine tf_go hx ftX11_soonest 5 [true] 46 [some (.ref o), some (.int (nI h1)), some (.int (nI b1)), some (.int (nI d1)), some (.int 0), some (.int 1), some (.int 2)] [] S rfl ⟨by decide, by decide, rfl⟩ ⟨trivial, (by decide)⟩ ?_
          refine tf_fgt [some (.ref o), some (.int (nI h1)), some (.int (nI b1)), some (.int (nI d1)), none, some (.int 1), some (.int 2)] (by simp [tf_lss]) ?_
          have pl : ∀ p, p ≤ 9 → tf_pc A.1 h1 b1 p d1 ≤ 480000 + 32 * 9999 := fun p hp => tf_pc_le hg h1_lt hp d1_le
          have loop : ∀ (m k : Nat) (q : Nat), k + m = 10 → (tf_sn A.1 h1 b1 d1 m k q = tf_sn A.1 h1 b1 d1 8 2 1) → (q ≤ 9) → tf_K x 0 0 G S 46 [some (.ref o), some (.int (nI h1)), some (.int (nI b1)), some (.int (nI d1)), none, some (.int (nI q)), some (.int (nI k))] [] := by
            intro m
            induction m with
            | zero =>
              intro k q hk he hq
              refine tf_go hx ftX11_soonest 2 [] 50 [some (.ref o), some (.int (nI h1)), some (.int (nI b1)), some (.int (nI d1)), none, some (.int (nI q)), some (.int (nI k))] [.int 10, .int (nI k)] S rfl ⟨by decide, by decide, rfl⟩ trivial ?_
              refine tf_go hx ftX11_soonest 2 [true] 91 [some (.ref o), some (.int (nI h1)), some (.int (nI b1)), some (.int (nI d1)), none, some (.int (nI q)), some (.int (nI k))] [.int (nI q)] S rfl ⟨by decide, by decide, rfl⟩ ⟨trivial, (tf_leT (a := 10) (b := k) (rfl : (10 : Int32) = nI 10) rfl (by omega) (by omega) (by omega))⟩ ?_
              exact tf_ret ftX11_soonest hR rfl ⟨by decide, by decide⟩ rfl rfl (by rw [← he]; rfl)
            | succ m ih =>
              intro k q hk he hq
              rw [tf_sn_s] at he
              have p1 := pl k (by omega)
              have p2 := pl q hq
              refine tf_go hx ftX11_soonest 2 [] 50 [some (.ref o), some (.int (nI h1)), some (.int (nI b1)), some (.int (nI d1)), none, some (.int (nI q)), some (.int (nI k))] [.int 10, .int (nI k)] S rfl ⟨by decide, by decide, rfl⟩ trivial ?_
              refine tf_go hx ftX11_soonest 1 [false] 53 [some (.ref o), some (.int (nI h1)), some (.int (nI b1)), some (.int (nI d1)), none, some (.int (nI q)), some (.int (nI k))] [] S rfl ⟨by decide, by decide, rfl⟩ ⟨trivial, (tf_leF (a := 10) (b := k) (rfl : (10 : Int32) = nI 10) rfl (by omega) (by omega) (by omega))⟩ ?_
              refine tf_go hx ftX11_soonest 5 [] 59 [some (.ref o), some (.int (nI h1)), some (.int (nI b1)), some (.int (nI d1)), none, some (.int (nI q)), some (.int (nI k))] [.int (nI d1), .int (nI k), .int (nI b1), .int (nI h1), .ref o] S rfl ⟨by decide, by decide, rfl⟩ trivial ?_
              refine tf_cV hx ftX11_soonest (nx := 62) (As := [.int (nI h1), .int (nI b1), .int (nI k), .int (nI d1)]) (rest := []) (st2 := [.int (nI (tf_pc A.1 h1 b1 k d1))]) (m_paceOf h1 b1 k d1 ho hf hg h1_lt b1_lt (by omega)) rfl lX11_132 (by first | assumption | rfl | decide) rfl ⟨rfl, by decide, by decide, by decide, rfl, rfl⟩ ?_
              refine tf_go hx ftX11_soonest 5 [] 68 [some (.ref o), some (.int (nI h1)), some (.int (nI b1)), some (.int (nI d1)), none, some (.int (nI q)), some (.int (nI k))] [.int (nI d1), .int (nI q), .int (nI b1), .int (nI h1), .ref o, .int (nI (tf_pc A.1 h1 b1 k d1))] S rfl ⟨by decide, by decide, rfl⟩ trivial ?_
              refine tf_cV hx ftX11_soonest (nx := 71) (As := [.int (nI h1), .int (nI b1), .int (nI q), .int (nI d1)]) (rest := [.int (nI (tf_pc A.1 h1 b1 k d1))]) (st2 := [.int (nI (tf_pc A.1 h1 b1 q d1)), .int (nI (tf_pc A.1 h1 b1 k d1))]) (m_paceOf h1 b1 q d1 ho hf hg h1_lt b1_lt hq) rfl lX11_132 (by first | assumption | rfl | decide) rfl ⟨rfl, by decide, by decide, by decide, rfl, rfl⟩ ?_
              by_cases e3 : tf_pc A.1 h1 b1 k d1 < tf_pc A.1 h1 b1 q d1
              · rw [if_pos e3] at he
                refine tf_go hx ftX11_soonest 6 [false] 46 [some (.ref o), some (.int (nI h1)), some (.int (nI b1)), some (.int (nI d1)), none, some (.int (nI k)), some (.int ((nI k) + 1))] [] S rfl ⟨by decide, by decide, rfl⟩ ⟨trivial, (tf_leF (a := (tf_pc A.1 h1 b1 q d1)) (b := (tf_pc A.1 h1 b1 k d1)) rfl rfl (by have := hb h1; omega) (by have := hb h1; omega) (by have := hb h1; omega))⟩ ?_
                rw [show ((nI k) + 1) = nI (k + 1) from (tf_add (a := k) (b := 1) rfl (rfl : (1 : Int32) = nI 1))]
                exact ih (k + 1) k (by omega) he (by omega)
              · rw [if_neg e3] at he
                refine tf_go hx ftX11_soonest 5 [true] 46 [some (.ref o), some (.int (nI h1)), some (.int (nI b1)), some (.int (nI d1)), none, some (.int (nI q)), some (.int ((nI k) + 1))] [] S rfl ⟨by decide, by decide, rfl⟩ ⟨trivial, (tf_leT (a := (tf_pc A.1 h1 b1 q d1)) (b := (tf_pc A.1 h1 b1 k d1)) rfl rfl (by have := hb h1; omega) (by have := hb h1; omega) (by have := hb h1; omega))⟩ ?_
                rw [show ((nI k) + 1) = nI (k + 1) from (tf_add (a := k) (b := 1) rfl (rfl : (1 : Int32) = nI 1))]
                exact ih (k + 1) q (by omega) he hq
          exact loop 8 2 1 rfl rfl (by omega)
    · rw [if_neg (fun h => c1 h.2)]
      refine ⟨tf_rfS G S o 1, tf_Fn_of (own := RX11) false ⟨by decide, rfl, by decide⟩ (Nat.le_of_ble_eq_true rfl) trivial (fun x hx hR => ?_), tf_ms_ref ho hd hM 1, tf_fm_0⟩
      show tf_K x 0 0 G S 0 [some (.ref o), some (.int h), some (.int b), some (.int d), none, none, none] []
      refine tf_go hx ftX11_soonest 1 [] 1 [some (.ref o), some (.int h), some (.int b), some (.int d), none, none, none] [.int h] S rfl ⟨by decide, by decide, rfl⟩ trivial ?_
      refine tf_cS hx ftX11_soonest (nx := 4) (As := [.int h]) (rest := []) (st2 := [.int (if ¬ h < 0 ∧ ¬ 4 ≤ h then 1 else 0)]) (m_isHand h) rfl lX11_62 rfl ⟨rfl, by decide, by decide, by decide, rfl, rfl⟩ ?_
      rw [if_pos c0]
      refine tf_go hx ftX11_soonest 1 [false] 7 [some (.ref o), some (.int h), some (.int b), some (.int d), none, none, none] [] S rfl ⟨by decide, by decide, rfl⟩ ⟨trivial, (by decide)⟩ ?_
      refine tf_go hx ftX11_soonest 1 [] 8 [some (.ref o), some (.int h), some (.int b), some (.int d), none, none, none] [.int b] S rfl ⟨by decide, by decide, rfl⟩ trivial ?_
      refine tf_cS hx ftX11_soonest (nx := 11) (As := [.int b]) (rest := []) (st2 := [.int (if ¬ b < 0 ∧ ¬ 4 ≤ b then 1 else 0)]) (m_isBoard b) rfl lX11_40 rfl ⟨rfl, by decide, by decide, by decide, rfl, rfl⟩ ?_
      rw [if_neg c1]
      refine tf_go hx ftX11_soonest 1 [true] 25 [some (.ref o), some (.int h), some (.int b), some (.int d), none, none, none] [] S rfl ⟨by decide, by decide, rfl⟩ ⟨trivial, (by decide)⟩ ?_
      refine tf_go hx ftX11_soonest 3 [] 30 [some (.ref o), some (.int h), some (.int b), some (.int d), some (.int (-1)), none, none] [.int (-1)] S rfl ⟨by decide, by decide, rfl⟩ trivial ?_
      refine tf_go hx ftX11_soonest 3 [false] 36 [some (.ref o), some (.int h), some (.int b), some (.int d), some (.int (-1)), none, none] [.int (-1), .ref o] S rfl ⟨by decide, by decide, rfl⟩ ⟨trivial, (by decide)⟩ ?_
      refine tf_cV hx ftX11_soonest (nx := 39) (As := [.int (-1)]) (rest := []) (st2 := [.int (-1)]) (m_ref1 ho) rfl lX11_26 (by first | assumption | rfl | decide) rfl ⟨rfl, by decide, by decide, by decide, rfl, rfl⟩ ?_
      exact tf_ret ftX11_soonest hR rfl ⟨by decide, by decide⟩ rfl rfl rfl
  · rw [if_neg (fun h => c0 h.1)]
    refine ⟨tf_rfS G S o 1, tf_Fn_of (own := RX11) false ⟨by decide, rfl, by decide⟩ (Nat.le_of_ble_eq_true rfl) trivial (fun x hx hR => ?_), tf_ms_ref ho hd hM 1, tf_fm_0⟩
    show tf_K x 0 0 G S 0 [some (.ref o), some (.int h), some (.int b), some (.int d), none, none, none] []
    refine tf_go hx ftX11_soonest 1 [] 1 [some (.ref o), some (.int h), some (.int b), some (.int d), none, none, none] [.int h] S rfl ⟨by decide, by decide, rfl⟩ trivial ?_
    refine tf_cS hx ftX11_soonest (nx := 4) (As := [.int h]) (rest := []) (st2 := [.int (if ¬ h < 0 ∧ ¬ 4 ≤ h then 1 else 0)]) (m_isHand h) rfl lX11_62 rfl ⟨rfl, by decide, by decide, by decide, rfl, rfl⟩ ?_
    rw [if_neg c0]
    refine tf_go hx ftX11_soonest 1 [true] 25 [some (.ref o), some (.int h), some (.int b), some (.int d), none, none, none] [] S rfl ⟨by decide, by decide, rfl⟩ ⟨trivial, (by decide)⟩ ?_
    refine tf_go hx ftX11_soonest 3 [] 30 [some (.ref o), some (.int h), some (.int b), some (.int d), some (.int (-1)), none, none] [.int (-1)] S rfl ⟨by decide, by decide, rfl⟩ trivial ?_
    refine tf_go hx ftX11_soonest 3 [false] 36 [some (.ref o), some (.int h), some (.int b), some (.int d), some (.int (-1)), none, none] [.int (-1), .ref o] S rfl ⟨by decide, by decide, rfl⟩ ⟨trivial, (by decide)⟩ ?_
    refine tf_cV hx ftX11_soonest (nx := 39) (As := [.int (-1)]) (rest := []) (st2 := [.int (-1)]) (m_ref1 ho) rfl lX11_26 (by first | assumption | rfl | decide) rfl ⟨rfl, by decide, by decide, by decide, rfl, rfl⟩ ?_
    exact tf_ret ftX11_soonest hR rfl ⟨by decide, by decide⟩ rfl rfl rfl

set_option maxHeartbeats 2000000 in
theorem p_nearest {G : tf_G} {S : tf_Sg} {o : Nat} {A : tf_A} (b : Int32) (ho : tf_mo G o) (hd : tf_md G o) (hA : tf_okA A) (hM : tf_ms G S o A)  : tf_pm mX11_nearest 6 G S o [.ref o, .int b] (s_nearest A b) := by
  obtain ⟨h1, ⟨r0, t0, n0⟩, ⟨r1, t1, n1⟩, ⟨r2, t2, n2⟩, ⟨r4, t4, n4⟩⟩ := id ho
  obtain ⟨hg, hb, hA3, hA4, hA5, hA6⟩ := id hA
  have hs := hM.1
  have hf : tf_sf G S o A.1 := ⟨hM.1, hb⟩
  obtain ⟨⟨g1, g2, g3, g4⟩, g5, g6, g7, g8, g9, g10, g11⟩ := id hg
  unfold s_nearest
  by_cases c0 : ¬ b < 0 ∧ ¬ 4 ≤ b
  · rw [if_pos c0]
    obtain ⟨b1, b1_lt, b1_eq, b1_cl⟩ := tf_ok_nI (N := 4) (show tf_ok b _ from c0) rfl (by decide)
    try rw [b1_cl]
    subst b1_eq
    by_cases e1 : A.1 367 = A.1 364
    · rw [if_pos e1]
      have fl : ∀ h, h < 4 → tf_fa A.1 h b1 ≤ 2000000 := fun h hh => tf_fa_le hg hb hh
      generalize hQ : tf_nb A.1 b1 3 1 0 = Q at *
      by_cases e2 : tf_nu A.1 b1 Q 4 0 = true
      · rw [if_pos e2]
        refine ⟨S, tf_Fn_of (own := RX11) false ⟨by decide, rfl, by decide⟩ (Nat.le_of_ble_eq_true rfl) trivial (fun x hx hR => ?_), hM, tf_fm_id⟩
        show tf_K x 0 0 G S 0 [some (.ref o), some (.int (nI b1)), none, none] []
        refine tf_go hx ftX11_nearest 1 [] 1 [some (.ref o), some (.int (nI b1)), none, none] [.int (nI b1)] S rfl ⟨by decide, by decide, rfl⟩ trivial ?_
        refine tf_cS hx ftX11_nearest (nx := 4) (As := [.int (nI b1)]) (rest := []) (st2 := [.int (if ¬ (nI b1) < 0 ∧ ¬ 4 ≤ (nI b1) then 1 else 0)]) (m_isBoard (nI b1)) rfl lX11_40 rfl ⟨rfl, by decide, by decide, by decide, rfl, rfl⟩ ?_
        rw [if_pos c0]
        refine tf_go hx ftX11_nearest 1 [true] 13 [some (.ref o), some (.int (nI b1)), none, none] [] S rfl ⟨by decide, by decide, rfl⟩ ⟨trivial, (by decide)⟩ ?_
        refine tf_go hx ftX11_nearest 8 [] 29 [some (.ref o), some (.int (nI b1)), none, none] [.int (S (tf_rf G o 1) (Int32.toNatClampNeg 364)), .int (S (tf_rf G o 1) (Int32.toNatClampNeg 367))] S rfl ⟨by decide, by decide, rfl⟩ ⟨⟨⟨⟨trivial, ⟨by first | assumption | rfl | decide | omega, by first | assumption | rfl | decide | omega⟩⟩, ⟨Or.inl (by first | assumption | rfl | decide | omega), by first | assumption | exact tf_in (n := 367) (rfl : (367 : Int32) = nI 367) (by first | assumption | rfl) (by omega) (by decide)⟩⟩, ⟨by first | assumption | rfl | decide | omega, by first | assumption | rfl | decide | omega⟩⟩, ⟨Or.inl (by first | assumption | rfl | decide | omega), by first | assumption | exact tf_in (n := 364) (rfl : (364 : Int32) = nI 364) (by first | assumption | rfl) (by omega) (by decide)⟩⟩ ?_
        rw [show (S (tf_rf G o 1) (Int32.toNatClampNeg 364)) = nI (A.1 364) from (tf_rd hs (rfl : (364 : Int32) = nI 364) (by omega))]
        rw [show (S (tf_rf G o 1) (Int32.toNatClampNeg 367)) = nI (A.1 367) from (tf_rd hs (rfl : (367 : Int32) = nI 367) (by omega))]
        refine tf_go hx ftX11_nearest 5 [true] 39 [some (.ref o), some (.int (nI b1)), some (.int 0), some (.int 1)] [] S rfl ⟨by decide, by decide, rfl⟩ ⟨trivial, (tf_eqT (a := (A.1 367)) (b := (A.1 364)) rfl rfl (by have := hb 367; have := hb 364; omega))⟩ ?_
        have tail : Q < 4 → tf_K x 0 0 G S 71 [some (.ref o), some (.int (nI b1)), some (.int (nI Q)), some (.int (nI 4))] [] := by
          intro hq4
          refine tf_go hx ftX11_nearest 2 [] 73 [some (.ref o), some (.int (nI b1)), some (.int (nI Q)), some (.int 0)] [] S rfl ⟨by decide, by decide, rfl⟩ trivial ?_
          have l2 : ∀ (m k : Nat), k + m = 4 → (tf_nu A.1 b1 Q m k = tf_nu A.1 b1 Q 4 0) → tf_K x 0 0 G S 73 [some (.ref o), some (.int (nI b1)), some (.int (nI Q)), some (.int (nI k))] [] := by
            intro m
            induction m with
            | zero =>
              intro k hk he
              refine tf_go hx ftX11_nearest 2 [] 75 [some (.ref o), some (.int (nI b1)), some (.int (nI Q)), some (.int (nI k))] [.int 4, .int (nI k)] S rfl ⟨by decide, by decide, rfl⟩ trivial ?_
              refine tf_go hx ftX11_nearest 2 [true] 108 [some (.ref o), some (.int (nI b1)), some (.int (nI Q)), some (.int (nI k))] [.int (nI Q)] S rfl ⟨by decide, by decide, rfl⟩ ⟨trivial, (tf_leT (a := 4) (b := k) (rfl : (4 : Int32) = nI 4) rfl (by omega) (by omega) (by omega))⟩ ?_
              exact tf_ret ftX11_nearest hR rfl ⟨by decide, by decide⟩ rfl rfl rfl
            | succ m ih =>
              intro k hk he
              rw [tf_nu_s] at he
              have p1 := fl k (by omega)
              have p2 := fl Q hq4
              refine tf_go hx ftX11_nearest 2 [] 75 [some (.ref o), some (.int (nI b1)), some (.int (nI Q)), some (.int (nI k))] [.int 4, .int (nI k)] S rfl ⟨by decide, by decide, rfl⟩ trivial ?_
              refine tf_go hx ftX11_nearest 1 [false] 78 [some (.ref o), some (.int (nI b1)), some (.int (nI Q)), some (.int (nI k))] [] S rfl ⟨by decide, by decide, rfl⟩ ⟨trivial, (tf_leF (a := 4) (b := k) (rfl : (4 : Int32) = nI 4) rfl (by omega) (by omega) (by omega))⟩ ?_
              refine tf_go hx ftX11_nearest 2 [] 80 [some (.ref o), some (.int (nI b1)), some (.int (nI Q)), some (.int (nI k))] [.int (nI Q), .int (nI k)] S rfl ⟨by decide, by decide, rfl⟩ trivial ?_
              by_cases d1 : k = Q
              · rw [if_neg (fun h => h.1 d1)] at he
                refine tf_go hx ftX11_nearest 3 [true] 73 [some (.ref o), some (.int (nI b1)), some (.int (nI Q)), some (.int ((nI k) + 1))] [] S rfl ⟨by decide, by decide, rfl⟩ ⟨trivial, (tf_eqT (a := k) (b := Q) rfl rfl (by omega))⟩ ?_
                rw [show ((nI k) + 1) = nI (k + 1) from (tf_add (a := k) (b := 1) rfl (rfl : (1 : Int32) = nI 1))]
                exact ih (k + 1) (by omega) he
              · refine tf_go hx ftX11_nearest 4 [false] 86 [some (.ref o), some (.int (nI b1)), some (.int (nI Q)), some (.int (nI k))] [.int (nI b1), .int (nI k), .ref o] S rfl ⟨by decide, by decide, rfl⟩ ⟨trivial, (tf_eqF (a := k) (b := Q) rfl rfl (by omega) (by omega) (by omega))⟩ ?_
                refine tf_cV hx ftX11_nearest (nx := 89) (As := [.int (nI k), .int (nI b1)]) (rest := []) (st2 := [.int (nI (tf_fa A.1 k b1))]) (m_farOf k b1 ho hf hg (by omega) b1_lt) rfl lX11_126 (by first | assumption | rfl | decide) rfl ⟨rfl, by decide, by decide, by decide, rfl, rfl⟩ ?_
                refine tf_go hx ftX11_nearest 3 [] 92 [some (.ref o), some (.int (nI b1)), some (.int (nI Q)), some (.int (nI k))] [.int (nI b1), .int (nI Q), .ref o, .int (nI (tf_fa A.1 k b1))] S rfl ⟨by decide, by decide, rfl⟩ trivial ?_
                refine tf_cV hx ftX11_nearest (nx := 95) (As := [.int (nI Q), .int (nI b1)]) (rest := [.int (nI (tf_fa A.1 k b1))]) (st2 := [.int (nI (tf_fa A.1 Q b1)), .int (nI (tf_fa A.1 k b1))]) (m_farOf Q b1 ho hf hg hq4 b1_lt) rfl lX11_126 (by first | assumption | rfl | decide) rfl ⟨rfl, by decide, by decide, by decide, rfl, rfl⟩ ?_
                by_cases d2 : tf_fa A.1 k b1 = tf_fa A.1 Q b1
                · rw [if_pos ⟨d1, d2⟩] at he
                  rw [e2] at he
                  cases he
                · rw [if_neg (fun h => d2 h.2)] at he
                  refine tf_go hx ftX11_nearest 3 [true] 73 [some (.ref o), some (.int (nI b1)), some (.int (nI Q)), some (.int ((nI k) + 1))] [] S rfl ⟨by decide, by decide, rfl⟩ ⟨trivial, (tf_eqF (a := (tf_fa A.1 k b1)) (b := (tf_fa A.1 Q b1)) rfl rfl (by have := hb k; have := hb Q; omega) (by have := hb k; have := hb Q; omega) (by have := hb k; have := hb Q; omega))⟩ ?_
                  rw [show ((nI k) + 1) = nI (k + 1) from (tf_add (a := k) (b := 1) rfl (rfl : (1 : Int32) = nI 1))]
                  exact ih (k + 1) (by omega) he
          exact l2 4 0 rfl rfl
        have loop : ∀ (m k : Nat) (q : Nat), k + m = 4 → (tf_nb A.1 b1 m k q = Q) → (q < 4) → tf_K x 0 0 G S 39 [some (.ref o), some (.int (nI b1)), some (.int (nI q)), some (.int (nI k))] [] := by
          intro m
          induction m with
          | zero =>
            intro k q hk he hq
            refine tf_go hx ftX11_nearest 2 [] 41 [some (.ref o), some (.int (nI b1)), some (.int (nI q)), some (.int (nI k))] [.int 4, .int (nI k)] S rfl ⟨by decide, by decide, rfl⟩ trivial ?_
            refine tf_go hx ftX11_nearest 1 [true] 71 [some (.ref o), some (.int (nI b1)), some (.int (nI q)), some (.int (nI k))] [] S rfl ⟨by decide, by decide, rfl⟩ ⟨trivial, (tf_leT (a := 4) (b := k) (rfl : (4 : Int32) = nI 4) rfl (by omega) (by omega) (by omega))⟩ ?_
            rw [show q = Q from he] at *
            rw [show k = 4 by omega]
            exact tail hq
          | succ m ih =>
            intro k q hk he hq
            rw [tf_nb_s] at he
            have p1 := fl k (by omega)
            have p2 := fl q hq
            refine tf_go hx ftX11_nearest 2 [] 41 [some (.ref o), some (.int (nI b1)), some (.int (nI q)), some (.int (nI k))] [.int 4, .int (nI k)] S rfl ⟨by decide, by decide, rfl⟩ trivial ?_
            refine tf_go hx ftX11_nearest 1 [false] 44 [some (.ref o), some (.int (nI b1)), some (.int (nI q)), some (.int (nI k))] [] S rfl ⟨by decide, by decide, rfl⟩ ⟨trivial, (tf_leF (a := 4) (b := k) (rfl : (4 : Int32) = nI 4) rfl (by omega) (by omega) (by omega))⟩ ?_
            refine tf_go hx ftX11_nearest 3 [] 47 [some (.ref o), some (.int (nI b1)), some (.int (nI q)), some (.int (nI k))] [.int (nI b1), .int (nI k), .ref o] S rfl ⟨by decide, by decide, rfl⟩ trivial ?_
            refine tf_cV hx ftX11_nearest (nx := 50) (As := [.int (nI k), .int (nI b1)]) (rest := []) (st2 := [.int (nI (tf_fa A.1 k b1))]) (m_farOf k b1 ho hf hg (by omega) b1_lt) rfl lX11_126 (by first | assumption | rfl | decide) rfl ⟨rfl, by decide, by decide, by decide, rfl, rfl⟩ ?_
            refine tf_go hx ftX11_nearest 3 [] 53 [some (.ref o), some (.int (nI b1)), some (.int (nI q)), some (.int (nI k))] [.int (nI b1), .int (nI q), .ref o, .int (nI (tf_fa A.1 k b1))] S rfl ⟨by decide, by decide, rfl⟩ trivial ?_
            refine tf_cV hx ftX11_nearest (nx := 56) (As := [.int (nI q), .int (nI b1)]) (rest := [.int (nI (tf_fa A.1 k b1))]) (st2 := [.int (nI (tf_fa A.1 q b1)), .int (nI (tf_fa A.1 k b1))]) (m_farOf q b1 ho hf hg hq b1_lt) rfl lX11_126 (by first | assumption | rfl | decide) rfl ⟨rfl, by decide, by decide, by decide, rfl, rfl⟩ ?_
            by_cases d1 : tf_fa A.1 k b1 < tf_fa A.1 q b1
            · rw [if_pos d1] at he
              refine tf_go hx ftX11_nearest 6 [false] 39 [some (.ref o), some (.int (nI b1)), some (.int (nI k)), some (.int ((nI k) + 1))] [] S rfl ⟨by decide, by decide, rfl⟩ ⟨trivial, (tf_leF (a := (tf_fa A.1 q b1)) (b := (tf_fa A.1 k b1)) rfl rfl (by have := hb q; have := hb k; omega) (by have := hb q; have := hb k; omega) (by have := hb q; have := hb k; omega))⟩ ?_
              rw [show ((nI k) + 1) = nI (k + 1) from (tf_add (a := k) (b := 1) rfl (rfl : (1 : Int32) = nI 1))]
              exact ih (k + 1) k (by omega) he (by omega)
            · rw [if_neg d1] at he
              refine tf_go hx ftX11_nearest 5 [true] 39 [some (.ref o), some (.int (nI b1)), some (.int (nI q)), some (.int ((nI k) + 1))] [] S rfl ⟨by decide, by decide, rfl⟩ ⟨trivial, (tf_leT (a := (tf_fa A.1 q b1)) (b := (tf_fa A.1 k b1)) rfl rfl (by have := hb q; have := hb k; omega) (by have := hb q; have := hb k; omega) (by have := hb q; have := hb k; omega))⟩ ?_
              rw [show ((nI k) + 1) = nI (k + 1) from (tf_add (a := k) (b := 1) rfl (rfl : (1 : Int32) = nI 1))]
              exact ih (k + 1) q (by omega) he hq
        exact loop 3 1 0 rfl hQ (by decide)
      · rw [if_neg e2]
        refine ⟨S, tf_Fn_of (own := RX11) false ⟨by decide, rfl, by decide⟩ (Nat.le_of_ble_eq_true rfl) trivial (fun x hx hR => ?_), hM, tf_fm_id⟩
        show tf_K x 0 0 G S 0 [some (.ref o), some (.int (nI b1)), none, none] []
        refine tf_go hx ftX11_nearest 1 [] 1 [some (.ref o), some (.int (nI b1)), none, none] [.int (nI b1)] S rfl ⟨by decide, by decide, rfl⟩ trivial ?_
        refine tf_cS hx ftX11_nearest (nx := 4) (As := [.int (nI b1)]) (rest := []) (st2 := [.int (if ¬ (nI b1) < 0 ∧ ¬ 4 ≤ (nI b1) then 1 else 0)]) (m_isBoard (nI b1)) rfl lX11_40 rfl ⟨rfl, by decide, by decide, by decide, rfl, rfl⟩ ?_
        rw [if_pos c0]
        refine tf_go hx ftX11_nearest 1 [true] 13 [some (.ref o), some (.int (nI b1)), none, none] [] S rfl ⟨by decide, by decide, rfl⟩ ⟨trivial, (by decide)⟩ ?_
        refine tf_go hx ftX11_nearest 8 [] 29 [some (.ref o), some (.int (nI b1)), none, none] [.int (S (tf_rf G o 1) (Int32.toNatClampNeg 364)), .int (S (tf_rf G o 1) (Int32.toNatClampNeg 367))] S rfl ⟨by decide, by decide, rfl⟩ ⟨⟨⟨⟨trivial, ⟨by first | assumption | rfl | decide | omega, by first | assumption | rfl | decide | omega⟩⟩, ⟨Or.inl (by first | assumption | rfl | decide | omega), by first | assumption | exact tf_in (n := 367) (rfl : (367 : Int32) = nI 367) (by first | assumption | rfl) (by omega) (by decide)⟩⟩, ⟨by first | assumption | rfl | decide | omega, by first | assumption | rfl | decide | omega⟩⟩, ⟨Or.inl (by first | assumption | rfl | decide | omega), by first | assumption | exact tf_in (n := 364) (rfl : (364 : Int32) = nI 364) (by first | assumption | rfl) (by omega) (by decide)⟩⟩ ?_
        rw [show (S (tf_rf G o 1) (Int32.toNatClampNeg 364)) = nI (A.1 364) from (tf_rd hs (rfl : (364 : Int32) = nI 364) (by omega))]
        rw [show (S (tf_rf G o 1) (Int32.toNatClampNeg 367)) = nI (A.1 367) from (tf_rd hs (rfl : (367 : Int32) = nI 367) (by omega))]
        refine tf_go hx ftX11_nearest 5 [true] 39 [some (.ref o), some (.int (nI b1)), some (.int 0), some (.int 1)] [] S rfl ⟨by decide, by decide, rfl⟩ ⟨trivial, (tf_eqT (a := (A.1 367)) (b := (A.1 364)) rfl rfl (by have := hb 367; have := hb 364; omega))⟩ ?_
        have tail : Q < 4 → tf_K x 0 0 G S 71 [some (.ref o), some (.int (nI b1)), some (.int (nI Q)), some (.int (nI 4))] [] := by
          intro hq4
          refine tf_go hx ftX11_nearest 2 [] 73 [some (.ref o), some (.int (nI b1)), some (.int (nI Q)), some (.int 0)] [] S rfl ⟨by decide, by decide, rfl⟩ trivial ?_
          have l2 : ∀ (m k : Nat), k + m = 4 → (tf_nu A.1 b1 Q m k = tf_nu A.1 b1 Q 4 0) → tf_K x 0 0 G S 73 [some (.ref o), some (.int (nI b1)), some (.int (nI Q)), some (.int (nI k))] [] := by
            intro m
            induction m with
            | zero =>
              intro k hk he
              exact absurd he.symm e2
            | succ m ih =>
              intro k hk he
              rw [tf_nu_s] at he
              have p1 := fl k (by omega)
              have p2 := fl Q hq4
              refine tf_go hx ftX11_nearest 2 [] 75 [some (.ref o), some (.int (nI b1)), some (.int (nI Q)), some (.int (nI k))] [.int 4, .int (nI k)] S rfl ⟨by decide, by decide, rfl⟩ trivial ?_
              refine tf_go hx ftX11_nearest 1 [false] 78 [some (.ref o), some (.int (nI b1)), some (.int (nI Q)), some (.int (nI k))] [] S rfl ⟨by decide, by decide, rfl⟩ ⟨trivial, (tf_leF (a := 4) (b := k) (rfl : (4 : Int32) = nI 4) rfl (by omega) (by omega) (by omega))⟩ ?_
              refine tf_go hx ftX11_nearest 2 [] 80 [some (.ref o), some (.int (nI b1)), some (.int (nI Q)), some (.int (nI k))] [.int (nI Q), .int (nI k)] S rfl ⟨by decide, by decide, rfl⟩ trivial ?_
              by_cases d1 : k = Q
              · rw [if_neg (fun h => h.1 d1)] at he
                refine tf_go hx ftX11_nearest 3 [true] 73 [some (.ref o), some (.int (nI b1)), some (.int (nI Q)), some (.int ((nI k) + 1))] [] S rfl ⟨by decide, by decide, rfl⟩ ⟨trivial, (tf_eqT (a := k) (b := Q) rfl rfl (by omega))⟩ ?_
                rw [show ((nI k) + 1) = nI (k + 1) from (tf_add (a := k) (b := 1) rfl (rfl : (1 : Int32) = nI 1))]
                exact ih (k + 1) (by omega) he
              · refine tf_go hx ftX11_nearest 4 [false] 86 [some (.ref o), some (.int (nI b1)), some (.int (nI Q)), some (.int (nI k))] [.int (nI b1), .int (nI k), .ref o] S rfl ⟨by decide, by decide, rfl⟩ ⟨trivial, (tf_eqF (a := k) (b := Q) rfl rfl (by omega) (by omega) (by omega))⟩ ?_
                refine tf_cV hx ftX11_nearest (nx := 89) (As := [.int (nI k), .int (nI b1)]) (rest := []) (st2 := [.int (nI (tf_fa A.1 k b1))]) (m_farOf k b1 ho hf hg (by omega) b1_lt) rfl lX11_126 (by first | assumption | rfl | decide) rfl ⟨rfl, by decide, by decide, by decide, rfl, rfl⟩ ?_
                refine tf_go hx ftX11_nearest 3 [] 92 [some (.ref o), some (.int (nI b1)), some (.int (nI Q)), some (.int (nI k))] [.int (nI b1), .int (nI Q), .ref o, .int (nI (tf_fa A.1 k b1))] S rfl ⟨by decide, by decide, rfl⟩ trivial ?_
                refine tf_cV hx ftX11_nearest (nx := 95) (As := [.int (nI Q), .int (nI b1)]) (rest := [.int (nI (tf_fa A.1 k b1))]) (st2 := [.int (nI (tf_fa A.1 Q b1)), .int (nI (tf_fa A.1 k b1))]) (m_farOf Q b1 ho hf hg hq4 b1_lt) rfl lX11_126 (by first | assumption | rfl | decide) rfl ⟨rfl, by decide, by decide, by decide, rfl, rfl⟩ ?_
                by_cases d2 : tf_fa A.1 k b1 = tf_fa A.1 Q b1
                · rw [if_pos ⟨d1, d2⟩] at he
                  refine tf_go hx ftX11_nearest 2 [false] 100 [some (.ref o), some (.int (nI b1)), some (.int (nI Q)), some (.int (nI k))] [.int (-9)] S rfl ⟨by decide, by decide, rfl⟩ ⟨trivial, (tf_neF (a := (tf_fa A.1 k b1)) (b := (tf_fa A.1 Q b1)) rfl rfl (by have := hb k; have := hb Q; omega))⟩ ?_
                  exact tf_ret ftX11_nearest hR rfl ⟨by decide, by decide⟩ rfl rfl rfl
                · rw [if_neg (fun h => d2 h.2)] at he
                  refine tf_go hx ftX11_nearest 3 [true] 73 [some (.ref o), some (.int (nI b1)), some (.int (nI Q)), some (.int ((nI k) + 1))] [] S rfl ⟨by decide, by decide, rfl⟩ ⟨trivial, (tf_eqF (a := (tf_fa A.1 k b1)) (b := (tf_fa A.1 Q b1)) rfl rfl (by have := hb k; have := hb Q; omega) (by have := hb k; have := hb Q; omega) (by have := hb k; have := hb Q; omega))⟩ ?_
                  rw [show ((nI k) + 1) = nI (k + 1) from (tf_add (a := k) (b := 1) rfl (rfl : (1 : Int32) = nI 1))]
                  exact ih (k + 1) (by omega) he
          exact l2 4 0 rfl rfl
        have loop : ∀ (m k : Nat) (q : Nat), k + m = 4 → (tf_nb A.1 b1 m k q = Q) → (q < 4) → tf_K x 0 0 G S 39 [some (.ref o), some (.int (nI b1)), some (.int (nI q)), some (.int (nI k))] [] := by
          intro m
          induction m with
          | zero =>
            intro k q hk he hq
            refine tf_go hx ftX11_nearest 2 [] 41 [some (.ref o), some (.int (nI b1)), some (.int (nI q)), some (.int (nI k))] [.int 4, .int (nI k)] S rfl ⟨by decide, by decide, rfl⟩ trivial ?_
            refine tf_go hx ftX11_nearest 1 [true] 71 [some (.ref o), some (.int (nI b1)), some (.int (nI q)), some (.int (nI k))] [] S rfl ⟨by decide, by decide, rfl⟩ ⟨trivial, (tf_leT (a := 4) (b := k) (rfl : (4 : Int32) = nI 4) rfl (by omega) (by omega) (by omega))⟩ ?_
            rw [show q = Q from he] at *
            rw [show k = 4 by omega]
            exact tail hq
          | succ m ih =>
            intro k q hk he hq
            rw [tf_nb_s] at he
            have p1 := fl k (by omega)
            have p2 := fl q hq
            refine tf_go hx ftX11_nearest 2 [] 41 [some (.ref o), some (.int (nI b1)), some (.int (nI q)), some (.int (nI k))] [.int 4, .int (nI k)] S rfl ⟨by decide, by decide, rfl⟩ trivial ?_
            refine tf_go hx ftX11_nearest 1 [false] 44 [some (.ref o), some (.int (nI b1)), some (.int (nI q)), some (.int (nI k))] [] S rfl ⟨by decide, by decide, rfl⟩ ⟨trivial, (tf_leF (a := 4) (b := k) (rfl : (4 : Int32) = nI 4) rfl (by omega) (by omega) (by omega))⟩ ?_
            refine tf_go hx ftX11_nearest 3 [] 47 [some (.ref o), some (.int (nI b1)), some (.int (nI q)), some (.int (nI k))] [.int (nI b1), .int (nI k), .ref o] S rfl ⟨by decide, by decide, rfl⟩ trivial ?_
            refine tf_cV hx ftX11_nearest (nx := 50) (As := [.int (nI k), .int (nI b1)]) (rest := []) (st2 := [.int (nI (tf_fa A.1 k b1))]) (m_farOf k b1 ho hf hg (by omega) b1_lt) rfl lX11_126 (by first | assumption | rfl | decide) rfl ⟨rfl, by decide, by decide, by decide, rfl, rfl⟩ ?_
            refine tf_go hx ftX11_nearest 3 [] 53 [some (.ref o), some (.int (nI b1)), some (.int (nI q)), some (.int (nI k))] [.int (nI b1), .int (nI q), .ref o, .int (nI (tf_fa A.1 k b1))] S rfl ⟨by decide, by decide, rfl⟩ trivial ?_
            refine tf_cV hx ftX11_nearest (nx := 56) (As := [.int (nI q), .int (nI b1)]) (rest := [.int (nI (tf_fa A.1 k b1))]) (st2 := [.int (nI (tf_fa A.1 q b1)), .int (nI (tf_fa A.1 k b1))]) (m_farOf q b1 ho hf hg hq b1_lt) rfl lX11_126 (by first | assumption | rfl | decide) rfl ⟨rfl, by decide, by decide, by decide, rfl, rfl⟩ ?_
            by_cases d1 : tf_fa A.1 k b1 < tf_fa A.1 q b1
            · rw [if_pos d1] at he
              refine tf_go hx ftX11_nearest 6 [false] 39 [some (.ref o), some (.int (nI b1)), some (.int (nI k)), some (.int ((nI k) + 1))] [] S rfl ⟨by decide, by decide, rfl⟩ ⟨trivial, (tf_leF (a := (tf_fa A.1 q b1)) (b := (tf_fa A.1 k b1)) rfl rfl (by have := hb q; have := hb k; omega) (by have := hb q; have := hb k; omega) (by have := hb q; have := hb k; omega))⟩ ?_
              rw [show ((nI k) + 1) = nI (k + 1) from (tf_add (a := k) (b := 1) rfl (rfl : (1 : Int32) = nI 1))]
              exact ih (k + 1) k (by omega) he (by omega)
            · rw [if_neg d1] at he
              refine tf_go hx ftX11_nearest 5 [true] 39 [some (.ref o), some (.int (nI b1)), some (.int (nI q)), some (.int ((nI k) + 1))] [] S rfl ⟨by decide, by decide, rfl⟩ ⟨trivial, (tf_leT (a := (tf_fa A.1 q b1)) (b := (tf_fa A.1 k b1)) rfl rfl (by have := hb q; have := hb k; omega) (by have := hb q; have := hb k; omega) (by have := hb q; have := hb k; omega))⟩ ?_
              rw [show ((nI k) + 1) = nI (k + 1) from (tf_add (a := k) (b := 1) rfl (rfl : (1 : Int32) = nI 1))]
              exact ih (k + 1) q (by omega) he hq
        exact loop 3 1 0 rfl hQ (by decide)
    · rw [if_neg e1]
      refine ⟨S, tf_Fn_of (own := RX11) false ⟨by decide, rfl, by decide⟩ (Nat.le_of_ble_eq_true rfl) trivial (fun x hx hR => ?_), hM, tf_fm_id⟩
      show tf_K x 0 0 G S 0 [some (.ref o), some (.int (nI b1)), none, none] []
      refine tf_go hx ftX11_nearest 1 [] 1 [some (.ref o), some (.int (nI b1)), none, none] [.int (nI b1)] S rfl ⟨by decide, by decide, rfl⟩ trivial ?_
      refine tf_cS hx ftX11_nearest (nx := 4) (As := [.int (nI b1)]) (rest := []) (st2 := [.int (if ¬ (nI b1) < 0 ∧ ¬ 4 ≤ (nI b1) then 1 else 0)]) (m_isBoard (nI b1)) rfl lX11_40 rfl ⟨rfl, by decide, by decide, by decide, rfl, rfl⟩ ?_
      rw [if_pos c0]
      refine tf_go hx ftX11_nearest 1 [true] 13 [some (.ref o), some (.int (nI b1)), none, none] [] S rfl ⟨by decide, by decide, rfl⟩ ⟨trivial, (by decide)⟩ ?_
      refine tf_go hx ftX11_nearest 8 [] 29 [some (.ref o), some (.int (nI b1)), none, none] [.int (S (tf_rf G o 1) (Int32.toNatClampNeg 364)), .int (S (tf_rf G o 1) (Int32.toNatClampNeg 367))] S rfl ⟨by decide, by decide, rfl⟩ ⟨⟨⟨⟨trivial, ⟨by first | assumption | rfl | decide | omega, by first | assumption | rfl | decide | omega⟩⟩, ⟨Or.inl (by first | assumption | rfl | decide | omega), by first | assumption | exact tf_in (n := 367) (rfl : (367 : Int32) = nI 367) (by first | assumption | rfl) (by omega) (by decide)⟩⟩, ⟨by first | assumption | rfl | decide | omega, by first | assumption | rfl | decide | omega⟩⟩, ⟨Or.inl (by first | assumption | rfl | decide | omega), by first | assumption | exact tf_in (n := 364) (rfl : (364 : Int32) = nI 364) (by first | assumption | rfl) (by omega) (by decide)⟩⟩ ?_
      rw [show (S (tf_rf G o 1) (Int32.toNatClampNeg 364)) = nI (A.1 364) from (tf_rd hs (rfl : (364 : Int32) = nI 364) (by omega))]
      rw [show (S (tf_rf G o 1) (Int32.toNatClampNeg 367)) = nI (A.1 367) from (tf_rd hs (rfl : (367 : Int32) = nI 367) (by omega))]
      refine tf_go hx ftX11_nearest 2 [false] 34 [some (.ref o), some (.int (nI b1)), none, none] [.int (-9)] S rfl ⟨by decide, by decide, rfl⟩ ⟨trivial, (tf_eqF (a := (A.1 367)) (b := (A.1 364)) rfl rfl (by have := hb 367; have := hb 364; omega) (by have := hb 367; have := hb 364; omega) (by have := hb 367; have := hb 364; omega))⟩ ?_
      exact tf_ret ftX11_nearest hR rfl ⟨by decide, by decide⟩ rfl rfl rfl
  · rw [if_neg (fun h => c0 h)]
    refine ⟨tf_rfS G S o 1, tf_Fn_of (own := RX11) false ⟨by decide, rfl, by decide⟩ (Nat.le_of_ble_eq_true rfl) trivial (fun x hx hR => ?_), tf_ms_ref ho hd hM 1, tf_fm_0⟩
    show tf_K x 0 0 G S 0 [some (.ref o), some (.int b), none, none] []
    refine tf_go hx ftX11_nearest 1 [] 1 [some (.ref o), some (.int b), none, none] [.int b] S rfl ⟨by decide, by decide, rfl⟩ trivial ?_
    refine tf_cS hx ftX11_nearest (nx := 4) (As := [.int b]) (rest := []) (st2 := [.int (if ¬ b < 0 ∧ ¬ 4 ≤ b then 1 else 0)]) (m_isBoard b) rfl lX11_40 rfl ⟨rfl, by decide, by decide, by decide, rfl, rfl⟩ ?_
    rw [if_neg c0]
    refine tf_go hx ftX11_nearest 1 [false] 7 [some (.ref o), some (.int b), none, none] [] S rfl ⟨by decide, by decide, rfl⟩ ⟨trivial, (by decide)⟩ ?_
    refine tf_go hx ftX11_nearest 2 [] 9 [some (.ref o), some (.int b), none, none] [.int (-1), .ref o] S rfl ⟨by decide, by decide, rfl⟩ trivial ?_
    refine tf_cV hx ftX11_nearest (nx := 12) (As := [.int (-1)]) (rest := []) (st2 := [.int (-1)]) (m_ref1 ho) rfl lX11_26 (by first | assumption | rfl | decide) rfl ⟨rfl, by decide, by decide, by decide, rfl, rfl⟩ ?_
    exact tf_ret ftX11_nearest hR rfl ⟨by decide, by decide⟩ rfl rfl rfl

set_option maxHeartbeats 2000000 in
theorem p_ache {G : tf_G} {S : tf_Sg} {o : Nat} {A : tf_A} (b q : Int32) (ho : tf_mo G o) (hd : tf_md G o) (hA : tf_okA A) (hM : tf_ms G S o A)  : tf_pm mX11_ache 3 G S o [.ref o, .int b, .int q] (s_ache A b q) := by
  obtain ⟨h1, ⟨r0, t0, n0⟩, ⟨r1, t1, n1⟩, ⟨r2, t2, n2⟩, ⟨r4, t4, n4⟩⟩ := id ho
  obtain ⟨hg, hb, hA3, hA4, hA5, hA6⟩ := id hA
  have hs := hM.1
  have hf : tf_sf G S o A.1 := ⟨hM.1, hb⟩
  obtain ⟨⟨g1, g2, g3, g4⟩, g5, g6, g7, g8, g9, g10, g11⟩ := id hg
  unfold s_ache
  by_cases c0 : ¬ b < 0 ∧ ¬ 4 ≤ b
  · by_cases c1 : ¬ q < 0 ∧ ¬ 8 ≤ q
    · rw [if_pos ⟨c0, c1⟩]
      obtain ⟨b1, b1_lt, b1_eq, b1_cl⟩ := tf_ok_nI (N := 4) (show tf_ok b _ from c0) rfl (by decide)
      try rw [b1_cl]
      obtain ⟨q1, q1_lt, q1_eq, q1_cl⟩ := tf_ok_nI (N := 8) (show tf_ok q _ from c1) rfl (by decide)
      try rw [q1_cl]
      subst b1_eq
      subst q1_eq
      refine ⟨S, tf_Fn_of (own := RX11) false ⟨by decide, rfl, by decide⟩ (Nat.le_of_ble_eq_true rfl) trivial (fun x hx hR => ?_), hM, tf_fm_id⟩
      show tf_K x 0 0 G S 0 [some (.ref o), some (.int (nI b1)), some (.int (nI q1)), none, none, none] []
      refine tf_go hx ftX11_ache 1 [] 1 [some (.ref o), some (.int (nI b1)), some (.int (nI q1)), none, none, none] [.int (nI b1)] S rfl ⟨by decide, by decide, rfl⟩ trivial ?_
      refine tf_cS hx ftX11_ache (nx := 4) (As := [.int (nI b1)]) (rest := []) (st2 := [.int (if ¬ (nI b1) < 0 ∧ ¬ 4 ≤ (nI b1) then 1 else 0)]) (m_isBoard (nI b1)) rfl lX11_40 rfl ⟨rfl, by decide, by decide, by decide, rfl, rfl⟩ ?_
      rw [if_pos c0]
      refine tf_go hx ftX11_ache 1 [false] 7 [some (.ref o), some (.int (nI b1)), some (.int (nI q1)), none, none, none] [] S rfl ⟨by decide, by decide, rfl⟩ ⟨trivial, (by decide)⟩ ?_
      refine tf_go hx ftX11_ache 2 [] 10 [some (.ref o), some (.int (nI b1)), some (.int (nI q1)), none, none, none] [.int 8, .int (nI q1)] S rfl ⟨by decide, by decide, rfl⟩ trivial ?_
      refine tf_cS hx ftX11_ache (nx := 13) (As := [.int (nI q1), .int 8]) (rest := []) (st2 := [.int (if ¬ (nI q1) < 0 ∧ ¬ 8 ≤ (nI q1) then 1 else 0)]) (m_isIn (nI q1) 8) rfl lX11_22 rfl ⟨rfl, by decide, by decide, by decide, rfl, rfl⟩ ?_
      rw [if_pos c1]
      refine tf_go hx ftX11_ache 1 [true] 22 [some (.ref o), some (.int (nI b1)), some (.int (nI q1)), none, none, none] [] S rfl ⟨by decide, by decide, rfl⟩ ⟨trivial, (by decide)⟩ ?_
      refine tf_go hx ftX11_ache 4 [] 27 [some (.ref o), some (.int (nI b1)), some (.int (nI q1)), some (.int 0), some (.int 0), none] [] S rfl ⟨by decide, by decide, rfl⟩ trivial ?_
      refine tf_fgt [some (.ref o), some (.int (nI b1)), some (.int (nI q1)), some (.int 0), some (.int 0), none] (by simp [tf_lss]) ?_
      have loop : ∀ (m k : Nat) (y : Nat), 41 = k + m → (y + tf_as A.1 b1 q1 m k = tf_as A.1 b1 q1 41 0) → (k ≤ 60) → tf_K x 0 0 G S 27 [some (.ref o), some (.int (nI b1)), some (.int (nI q1)), some (.int (nI y)), some (.int (nI k)), none] [] := by
        intro m
        induction m with
        | zero =>
          intro k y hk he hk3
          refine tf_go hx ftX11_ache 5 [] 37 [some (.ref o), some (.int (nI b1)), some (.int (nI q1)), some (.int (nI y)), some (.int (nI k)), none] [.int (S (tf_rf G o 1) (Int32.toNatClampNeg 364)), .int (nI k)] S rfl ⟨by decide, by decide, rfl⟩ ⟨⟨trivial, ⟨by first | assumption | rfl | decide | omega, by first | assumption | rfl | decide | omega⟩⟩, ⟨Or.inl (by first | assumption | rfl | decide | omega), by first | assumption | exact tf_in (n := 364) (rfl : (364 : Int32) = nI 364) (by first | assumption | rfl) (by omega) (by decide)⟩⟩ ?_
          rw [show (S (tf_rf G o 1) (Int32.toNatClampNeg 364)) = nI (A.1 364) from (tf_rd hs (rfl : (364 : Int32) = nI 364) (by omega))]
          refine tf_go hx ftX11_ache 2 [true] 94 [some (.ref o), some (.int (nI b1)), some (.int (nI q1)), some (.int (nI y)), some (.int (nI k)), none] [.int (nI y)] S rfl ⟨by decide, by decide, rfl⟩ ⟨trivial, (tf_leT (a := (A.1 364)) (b := k) rfl rfl (by have := hb 364; omega) (by have := hb 364; omega) (by have := hb 364; omega))⟩ ?_
          exact tf_ret ftX11_ache hR rfl ⟨by decide, by decide⟩ rfl rfl (by rw [← he]; rfl)
        | succ m ih =>
          intro k y hk he hk3
          rw [tf_as_s] at he
          refine tf_go hx ftX11_ache 5 [] 37 [some (.ref o), some (.int (nI b1)), some (.int (nI q1)), some (.int (nI y)), some (.int (nI k)), none] [.int (S (tf_rf G o 1) (Int32.toNatClampNeg 364)), .int (nI k)] S rfl ⟨by decide, by decide, rfl⟩ ⟨⟨trivial, ⟨by first | assumption | rfl | decide | omega, by first | assumption | rfl | decide | omega⟩⟩, ⟨Or.inl (by first | assumption | rfl | decide | omega), by first | assumption | exact tf_in (n := 364) (rfl : (364 : Int32) = nI 364) (by first | assumption | rfl) (by omega) (by decide)⟩⟩ ?_
          rw [show (S (tf_rf G o 1) (Int32.toNatClampNeg 364)) = nI (A.1 364) from (tf_rd hs (rfl : (364 : Int32) = nI 364) (by omega))]
          by_cases d0 : k < A.1 364
          · rw [if_pos d0] at he
            have l1 := g6 k d0
            refine tf_go hx ftX11_ache 1 [false] 40 [some (.ref o), some (.int (nI b1)), some (.int (nI q1)), some (.int (nI y)), some (.int (nI k)), none] [] S rfl ⟨by decide, by decide, rfl⟩ ⟨trivial, (tf_leF (a := (A.1 364)) (b := k) rfl rfl (by have := hb 364; omega) (by have := hb 364; omega) (by have := hb 364; omega))⟩ ?_
            refine tf_go hx ftX11_ache 8 [] 53 [some (.ref o), some (.int (nI b1)), some (.int (nI q1)), some (.int (nI y)), some (.int (nI k)), none] [.int (S (tf_rf G o 1) (Int32.toNatClampNeg (144 + (nI k)))), .int (nI b1), .ref o] S rfl ⟨by decide, by decide, rfl⟩ ⟨⟨trivial, ⟨by first | assumption | rfl | decide | omega, by first | assumption | rfl | decide | omega⟩⟩, ⟨Or.inl (by first | assumption | rfl | decide | omega), by first | assumption | exact tf_in (n := (144 + k)) (tf_add (a := 144) (b := k) (rfl : (144 : Int32) = nI 144) rfl) (by first | assumption | rfl) (by omega) (by decide)⟩⟩ ?_
            rw [show (S (tf_rf G o 1) (Int32.toNatClampNeg (144 + (nI k)))) = nI (A.1 (144 + k)) from (tf_rd hs (tf_add (a := 144) (b := k) (rfl : (144 : Int32) = nI 144) rfl) (by omega))]
            refine tf_cV hx ftX11_ache (nx := 56) (As := [.int (nI b1), .int (nI (A.1 (144 + k)))]) (rest := []) (st2 := [.int (tf_on 30 (tf_ke A.1 b1 (A.1 (144 + k))))]) (m_keyAt b1 (A.1 (144 + k)) ho hf b1_lt (by omega)) rfl lX11_51 (by first | assumption | rfl | decide) rfl ⟨rfl, by decide, by decide, by decide, rfl, rfl⟩ ?_
            have k1 := tf_ke_le A.1 b1 (A.1 (144 + k))
            generalize hu : tf_ke A.1 b1 (A.1 (144 + k)) = u at *
            by_cases d1 : u < 30
            · rw [tf_on_y d1]
              refine tf_go hx ftX11_ache 3 [] 61 [some (.ref o), some (.int (nI b1)), some (.int (nI q1)), some (.int (nI y)), some (.int (nI k)), some (.int (nI u))] [.int (nI u), .int (nI y)] S rfl ⟨by decide, by decide, rfl⟩ trivial ?_
              refine tf_go hx ftX11_ache 1 [false] 64 [some (.ref o), some (.int (nI b1)), some (.int (nI q1)), some (.int (nI y)), some (.int (nI k)), some (.int (nI u))] [.int (nI y)] S rfl ⟨by decide, by decide, rfl⟩ ⟨trivial, (tf_ltF (a := u) (b := 0) rfl (rfl : (0 : Int32) = nI 0) (by omega) (by omega) (by omega))⟩ ?_
              refine tf_go hx ftX11_ache 2 [] 67 [some (.ref o), some (.int (nI b1)), some (.int (nI q1)), some (.int (nI y)), some (.int (nI k)), some (.int (nI u))] [.int 0, .int (nI u), .int (nI y)] S rfl ⟨by decide, by decide, rfl⟩ trivial ?_
              refine tf_cS hx ftX11_ache (nx := 70) (As := [.int (nI u), .int 0]) (rest := [.int (nI y)]) (st2 := [.int (nI (tf_fi u 0)), .int (nI y)]) (m_finger u 0 (by omega) (by decide)) rfl lX11_58 rfl ⟨rfl, by decide, by decide, by decide, rfl, rfl⟩ ?_
              have f1 := tf_fi_le u 0
              refine tf_go hx ftX11_ache 1 [] 71 [some (.ref o), some (.int (nI b1)), some (.int (nI q1)), some (.int (nI y)), some (.int (nI k)), some (.int (nI u))] [.int (nI q1), .int (nI (tf_fi u 0)), .int (nI y)] S rfl ⟨by decide, by decide, rfl⟩ trivial ?_
              by_cases d2 : tf_fi u 0 = q1
              · rw [if_pos ⟨d1, d2⟩] at he
                refine tf_go hx ftX11_ache 4 [false] 78 [some (.ref o), some (.int (nI b1)), some (.int (nI q1)), some (.int (nI y)), some (.int (nI k)), some (.int (nI u))] [.int (nI k), .int (nI b1), .ref o, .int (nI y)] S rfl ⟨by decide, by decide, rfl⟩ ⟨trivial, (tf_neF (a := (tf_fi u 0)) (b := q1) rfl rfl (by omega))⟩ ?_
                refine tf_cV hx ftX11_ache (nx := 81) (As := [.int (nI b1), .int (nI k)]) (rest := [.int (nI y)]) (st2 := [.int (nI (tf_ah A.1 b1 k)), .int (nI y)]) (m_acheAt b1 k ho hf hg b1_lt d0) rfl lX11_129 (by first | assumption | rfl | decide) rfl ⟨rfl, by decide, by decide, by decide, rfl, rfl⟩ ?_
                refine tf_go hx ftX11_ache 5 [] 27 [some (.ref o), some (.int (nI b1)), some (.int (nI q1)), some (.int ((nI y) + (nI (tf_ah A.1 b1 k)))), some (.int ((nI k) + 1)), some (.int (nI u))] [] S rfl ⟨by decide, by decide, rfl⟩ trivial ?_
                rw [show ((nI y) + (nI (tf_ah A.1 b1 k))) = nI (y + (tf_ah A.1 b1 k)) from (tf_add (a := y) (b := (tf_ah A.1 b1 k)) rfl rfl)]
                rw [show ((nI k) + 1) = nI (k + 1) from (tf_add (a := k) (b := 1) rfl (rfl : (1 : Int32) = nI 1))]
                refine tf_fgt [some (.ref o), some (.int (nI b1)), some (.int (nI q1)), some (.int (nI (y + tf_ah A.1 b1 k))), some (.int (nI (k + 1))), none] (by simp [tf_lss]) ?_
                exact ih (k + 1) (y + tf_ah A.1 b1 k) (by omega) (by omega) (by omega)
              · rw [if_neg (fun h => d2 h.2)] at he
                refine tf_go hx ftX11_ache 6 [true] 27 [some (.ref o), some (.int (nI b1)), some (.int (nI q1)), some (.int ((nI y) + 0)), some (.int ((nI k) + 1)), some (.int (nI u))] [] S rfl ⟨by decide, by decide, rfl⟩ ⟨trivial, (tf_eqF (a := (tf_fi u 0)) (b := q1) rfl rfl (by omega) (by omega) (by omega))⟩ ?_
                rw [show ((nI k) + 1) = nI (k + 1) from (tf_add (a := k) (b := 1) rfl (rfl : (1 : Int32) = nI 1))]
                rw [show ((nI y) + 0) = nI (y + 0) from (tf_add (a := y) (b := 0) rfl (rfl : (0 : Int32) = nI 0))]
                refine tf_fgt [some (.ref o), some (.int (nI b1)), some (.int (nI q1)), some (.int (nI (y + 0))), some (.int (nI (k + 1))), none] (by simp [tf_lss]) ?_
                exact ih (k + 1) y (by omega) (by omega) (by omega)
            · rw [if_neg (fun h => d1 h.1)] at he
              rw [tf_on_n d1]
              refine tf_go hx ftX11_ache 3 [] 61 [some (.ref o), some (.int (nI b1)), some (.int (nI q1)), some (.int (nI y)), some (.int (nI k)), some (.int (-9))] [.int (-9), .int (nI y)] S rfl ⟨by decide, by decide, rfl⟩ trivial ?_
              refine tf_go hx ftX11_ache 6 [true] 27 [some (.ref o), some (.int (nI b1)), some (.int (nI q1)), some (.int ((nI y) + 0)), some (.int ((nI k) + 1)), some (.int (-9))] [] S rfl ⟨by decide, by decide, rfl⟩ ⟨trivial, (by decide)⟩ ?_
              rw [show ((nI k) + 1) = nI (k + 1) from (tf_add (a := k) (b := 1) rfl (rfl : (1 : Int32) = nI 1))]
              rw [show ((nI y) + 0) = nI (y + 0) from (tf_add (a := y) (b := 0) rfl (rfl : (0 : Int32) = nI 0))]
              refine tf_fgt [some (.ref o), some (.int (nI b1)), some (.int (nI q1)), some (.int (nI (y + 0))), some (.int (nI (k + 1))), none] (by simp [tf_lss]) ?_
              exact ih (k + 1) y (by omega) (by omega) (by omega)
          · rw [if_neg d0] at he
            refine tf_go hx ftX11_ache 2 [true] 94 [some (.ref o), some (.int (nI b1)), some (.int (nI q1)), some (.int (nI y)), some (.int (nI k)), none] [.int (nI y)] S rfl ⟨by decide, by decide, rfl⟩ ⟨trivial, (tf_leT (a := (A.1 364)) (b := k) rfl rfl (by have := hb 364; omega) (by have := hb 364; omega) (by have := hb 364; omega))⟩ ?_
            exact tf_ret ftX11_ache hR rfl ⟨by decide, by decide⟩ rfl rfl (by rw [← he]; rfl)
      exact loop 41 0 0 (by omega) (by omega) (by omega)
    · rw [if_neg (fun h => c1 h.2)]
      refine ⟨tf_rfS G S o 1, tf_Fn_of (own := RX11) false ⟨by decide, rfl, by decide⟩ (Nat.le_of_ble_eq_true rfl) trivial (fun x hx hR => ?_), tf_ms_ref ho hd hM 1, tf_fm_0⟩
      show tf_K x 0 0 G S 0 [some (.ref o), some (.int b), some (.int q), none, none, none] []
      refine tf_go hx ftX11_ache 1 [] 1 [some (.ref o), some (.int b), some (.int q), none, none, none] [.int b] S rfl ⟨by decide, by decide, rfl⟩ trivial ?_
      refine tf_cS hx ftX11_ache (nx := 4) (As := [.int b]) (rest := []) (st2 := [.int (if ¬ b < 0 ∧ ¬ 4 ≤ b then 1 else 0)]) (m_isBoard b) rfl lX11_40 rfl ⟨rfl, by decide, by decide, by decide, rfl, rfl⟩ ?_
      rw [if_pos c0]
      refine tf_go hx ftX11_ache 1 [false] 7 [some (.ref o), some (.int b), some (.int q), none, none, none] [] S rfl ⟨by decide, by decide, rfl⟩ ⟨trivial, (by decide)⟩ ?_
      refine tf_go hx ftX11_ache 2 [] 10 [some (.ref o), some (.int b), some (.int q), none, none, none] [.int 8, .int q] S rfl ⟨by decide, by decide, rfl⟩ trivial ?_
      refine tf_cS hx ftX11_ache (nx := 13) (As := [.int q, .int 8]) (rest := []) (st2 := [.int (if ¬ q < 0 ∧ ¬ 8 ≤ q then 1 else 0)]) (m_isIn q 8) rfl lX11_22 rfl ⟨rfl, by decide, by decide, by decide, rfl, rfl⟩ ?_
      rw [if_neg c1]
      refine tf_go hx ftX11_ache 1 [false] 16 [some (.ref o), some (.int b), some (.int q), none, none, none] [] S rfl ⟨by decide, by decide, rfl⟩ ⟨trivial, (by decide)⟩ ?_
      refine tf_go hx ftX11_ache 2 [] 18 [some (.ref o), some (.int b), some (.int q), none, none, none] [.int (-1), .ref o] S rfl ⟨by decide, by decide, rfl⟩ trivial ?_
      refine tf_cV hx ftX11_ache (nx := 21) (As := [.int (-1)]) (rest := []) (st2 := [.int (-1)]) (m_ref1 ho) rfl lX11_26 (by first | assumption | rfl | decide) rfl ⟨rfl, by decide, by decide, by decide, rfl, rfl⟩ ?_
      exact tf_ret ftX11_ache hR rfl ⟨by decide, by decide⟩ rfl rfl rfl
  · rw [if_neg (fun h => c0 h.1)]
    refine ⟨tf_rfS G S o 1, tf_Fn_of (own := RX11) false ⟨by decide, rfl, by decide⟩ (Nat.le_of_ble_eq_true rfl) trivial (fun x hx hR => ?_), tf_ms_ref ho hd hM 1, tf_fm_0⟩
    show tf_K x 0 0 G S 0 [some (.ref o), some (.int b), some (.int q), none, none, none] []
    refine tf_go hx ftX11_ache 1 [] 1 [some (.ref o), some (.int b), some (.int q), none, none, none] [.int b] S rfl ⟨by decide, by decide, rfl⟩ trivial ?_
    refine tf_cS hx ftX11_ache (nx := 4) (As := [.int b]) (rest := []) (st2 := [.int (if ¬ b < 0 ∧ ¬ 4 ≤ b then 1 else 0)]) (m_isBoard b) rfl lX11_40 rfl ⟨rfl, by decide, by decide, by decide, rfl, rfl⟩ ?_
    rw [if_neg c0]
    refine tf_go hx ftX11_ache 1 [true] 16 [some (.ref o), some (.int b), some (.int q), none, none, none] [] S rfl ⟨by decide, by decide, rfl⟩ ⟨trivial, (by decide)⟩ ?_
    refine tf_go hx ftX11_ache 2 [] 18 [some (.ref o), some (.int b), some (.int q), none, none, none] [.int (-1), .ref o] S rfl ⟨by decide, by decide, rfl⟩ trivial ?_
    refine tf_cV hx ftX11_ache (nx := 21) (As := [.int (-1)]) (rest := []) (st2 := [.int (-1)]) (m_ref1 ho) rfl lX11_26 (by first | assumption | rfl | decide) rfl ⟨rfl, by decide, by decide, by decide, rfl, rfl⟩ ?_
    exact tf_ret ftX11_ache hR rfl ⟨by decide, by decide⟩ rfl rfl rfl

set_option maxHeartbeats 2000000 in
theorem p_span {G : tf_G} {S : tf_Sg} {o : Nat} {A : tf_A} (b l : Int32) (g : Nat) (ho : tf_mo G o) (hd : tf_md G o) (hA : tf_okA A) (hM : tf_ms G S o A) (hgg : g < 2) : tf_pm mX11_span 3 G S o [.ref o, .int b, .int l, .int (nI g)] (s_span A b l g) := by
  obtain ⟨h1, ⟨r0, t0, n0⟩, ⟨r1, t1, n1⟩, ⟨r2, t2, n2⟩, ⟨r4, t4, n4⟩⟩ := id ho
  obtain ⟨hg, hb, hA3, hA4, hA5, hA6⟩ := id hA
  have hs := hM.1
  have hf : tf_sf G S o A.1 := ⟨hM.1, hb⟩
  obtain ⟨⟨g1, g2, g3, g4⟩, g5, g6, g7, g8, g9, g10, g11⟩ := id hg
  unfold s_span
  by_cases c0 : ¬ b < 0 ∧ ¬ 4 ≤ b
  · rw [if_pos c0]
    obtain ⟨b1, b1_lt, b1_eq, b1_cl⟩ := tf_ok_nI (N := 4) (show tf_ok b _ from c0) rfl (by decide)
    try rw [b1_cl]
    subst b1_eq
    by_cases e1 : ¬ l < 0 ∧ ¬ 3 ≤ l
    · rw [if_pos e1]
      obtain ⟨l1, l1_lt, l1_eq, l1_cl⟩ := tf_ok_nI (N := 3) (show tf_ok l _ from e1) rfl (by decide)
      try rw [l1_cl]
      subst l1_eq
      refine ⟨S, tf_Fn_of (own := RX11) false ⟨by decide, rfl, by decide⟩ (Nat.le_of_ble_eq_true rfl) trivial (fun x hx hR => ?_), hM, tf_fm_id⟩
      show tf_K x 0 0 G S 0 [some (.ref o), some (.int (nI b1)), some (.int (nI l1)), some (.int (nI g)), none, none, none, none, none] []
      refine tf_go hx ftX11_span 1 [] 1 [some (.ref o), some (.int (nI b1)), some (.int (nI l1)), some (.int (nI g)), none, none, none, none, none] [.int (nI b1)] S rfl ⟨by decide, by decide, rfl⟩ trivial ?_
      refine tf_cS hx ftX11_span (nx := 4) (As := [.int (nI b1)]) (rest := []) (st2 := [.int (if ¬ (nI b1) < 0 ∧ ¬ 4 ≤ (nI b1) then 1 else 0)]) (m_isBoard (nI b1)) rfl lX11_40 rfl ⟨rfl, by decide, by decide, by decide, rfl, rfl⟩ ?_
      rw [if_pos c0]
      refine tf_go hx ftX11_span 1 [true] 13 [some (.ref o), some (.int (nI b1)), some (.int (nI l1)), some (.int (nI g)), none, none, none, none, none] [] S rfl ⟨by decide, by decide, rfl⟩ ⟨trivial, (by decide)⟩ ?_
      refine tf_go hx ftX11_span 2 [] 15 [some (.ref o), some (.int (nI b1)), some (.int (nI l1)), some (.int (nI g)), none, none, none, none, none] [.int 3, .int (nI l1)] S rfl ⟨by decide, by decide, rfl⟩ trivial ?_
      refine tf_cS hx ftX11_span (nx := 18) (As := [.int (nI l1), .int 3]) (rest := []) (st2 := [.int (if ¬ (nI l1) < 0 ∧ ¬ 3 ≤ (nI l1) then 1 else 0)]) (m_isIn (nI l1) 3) rfl lX11_22 rfl ⟨rfl, by decide, by decide, by decide, rfl, rfl⟩ ?_
      rw [if_pos e1]
      refine tf_go hx ftX11_span 5 [true] 35 [some (.ref o), some (.int (nI b1)), some (.int (nI l1)), some (.int (nI g)), some (.int (-9)), some (.int 1), none, none, none] [] S rfl ⟨by decide, by decide, rfl⟩ ⟨trivial, (by decide)⟩ ?_
      refine tf_fgt [some (.ref o), some (.int (nI b1)), some (.int (nI l1)), some (.int (nI g)), some (.int (-9)), some (.int 1), none, none, none] (by simp [tf_lss]) ?_
      have loop : ∀ (m k : Nat) (q : Nat), 41 = k + m → (tf_sp A.1 b1 l1 g m k q = tf_sp A.1 b1 l1 g 40 1 10000) → (1 ≤ k) → (q = 10000 ∨ q < 10000) → tf_K x 0 0 G S 35 [some (.ref o), some (.int (nI b1)), some (.int (nI l1)), some (.int (nI g)), some (.int (tf_on 10000 q)), some (.int (nI k)), none, none, none] [] := by
        intro m
        induction m with
        | zero =>
          intro k q hk he hk3 hq
          refine tf_go hx ftX11_span 5 [] 45 [some (.ref o), some (.int (nI b1)), some (.int (nI l1)), some (.int (nI g)), some (.int (tf_on 10000 q)), some (.int (nI k)), none, none, none] [.int (S (tf_rf G o 1) (Int32.toNatClampNeg 367)), .int (nI k)] S rfl ⟨by decide, by decide, rfl⟩ ⟨⟨trivial, ⟨by first | assumption | rfl | decide | omega, by first | assumption | rfl | decide | omega⟩⟩, ⟨Or.inl (by first | assumption | rfl | decide | omega), by first | assumption | exact tf_in (n := 367) (rfl : (367 : Int32) = nI 367) (by first | assumption | rfl) (by omega) (by decide)⟩⟩ ?_
          rw [show (S (tf_rf G o 1) (Int32.toNatClampNeg 367)) = nI (A.1 367) from (tf_rd hs (rfl : (367 : Int32) = nI 367) (by omega))]
          by_cases d0 : k < A.1 367
          · refine tf_go hx ftX11_span 1 [false] 48 [some (.ref o), some (.int (nI b1)), some (.int (nI l1)), some (.int (nI g)), some (.int (tf_on 10000 q)), some (.int (nI k)), none, none, none] [] S rfl ⟨by decide, by decide, rfl⟩ ⟨trivial, (tf_leF (a := (A.1 367)) (b := k) rfl rfl (by have := hb 367; omega) (by have := hb 367; omega) (by have := hb 367; omega))⟩ ?_
            refine tf_go hx ftX11_span 5 [] 58 [some (.ref o), some (.int (nI b1)), some (.int (nI l1)), some (.int (nI g)), some (.int (tf_on 10000 q)), some (.int (nI k)), none, none, none] [.int (S (tf_rf G o 1) (Int32.toNatClampNeg 364)), .int (nI k)] S rfl ⟨by decide, by decide, rfl⟩ ⟨⟨trivial, ⟨by first | assumption | rfl | decide | omega, by first | assumption | rfl | decide | omega⟩⟩, ⟨Or.inl (by first | assumption | rfl | decide | omega), by first | assumption | exact tf_in (n := 364) (rfl : (364 : Int32) = nI 364) (by first | assumption | rfl) (by omega) (by decide)⟩⟩ ?_
            rw [show (S (tf_rf G o 1) (Int32.toNatClampNeg 364)) = nI (A.1 364) from (tf_rd hs (rfl : (364 : Int32) = nI 364) (by omega))]
            refine tf_go hx ftX11_span 2 [true] 198 [some (.ref o), some (.int (nI b1)), some (.int (nI l1)), some (.int (nI g)), some (.int (tf_on 10000 q)), some (.int (nI k)), none, none, none] [.int (tf_on 10000 q)] S rfl ⟨by decide, by decide, rfl⟩ ⟨trivial, (tf_leT (a := (A.1 364)) (b := k) rfl rfl (by have := hb 364; omega) (by have := hb 364; omega) (by have := hb 364; omega))⟩ ?_
            exact tf_ret ftX11_span hR rfl ⟨by decide, by decide⟩ rfl rfl (by rw [← he]; rfl)
          · refine tf_go hx ftX11_span 2 [true] 198 [some (.ref o), some (.int (nI b1)), some (.int (nI l1)), some (.int (nI g)), some (.int (tf_on 10000 q)), some (.int (nI k)), none, none, none] [.int (tf_on 10000 q)] S rfl ⟨by decide, by decide, rfl⟩ ⟨trivial, (tf_leT (a := (A.1 367)) (b := k) rfl rfl (by have := hb 367; omega) (by have := hb 367; omega) (by have := hb 367; omega))⟩ ?_
            exact tf_ret ftX11_span hR rfl ⟨by decide, by decide⟩ rfl rfl (by rw [← he]; rfl)
        | succ m ih =>
          intro k q hk he hk3 hq
          rw [tf_sp_s] at he
          refine tf_go hx ftX11_span 5 [] 45 [some (.ref o), some (.int (nI b1)), some (.int (nI l1)), some (.int (nI g)), some (.int (tf_on 10000 q)), some (.int (nI k)), none, none, none] [.int (S (tf_rf G o 1) (Int32.toNatClampNeg 367)), .int (nI k)] S rfl ⟨by decide, by decide, rfl⟩ ⟨⟨trivial, ⟨by first | assumption | rfl | decide | omega, by first | assumption | rfl | decide | omega⟩⟩, ⟨Or.inl (by first | assumption | rfl | decide | omega), by first | assumption | exact tf_in (n := 367) (rfl : (367 : Int32) = nI 367) (by first | assumption | rfl) (by omega) (by decide)⟩⟩ ?_
          rw [show (S (tf_rf G o 1) (Int32.toNatClampNeg 367)) = nI (A.1 367) from (tf_rd hs (rfl : (367 : Int32) = nI 367) (by omega))]
          by_cases d0 : k < A.1 367
          · refine tf_go hx ftX11_span 1 [false] 48 [some (.ref o), some (.int (nI b1)), some (.int (nI l1)), some (.int (nI g)), some (.int (tf_on 10000 q)), some (.int (nI k)), none, none, none] [] S rfl ⟨by decide, by decide, rfl⟩ ⟨trivial, (tf_leF (a := (A.1 367)) (b := k) rfl rfl (by have := hb 367; omega) (by have := hb 367; omega) (by have := hb 367; omega))⟩ ?_
            refine tf_go hx ftX11_span 5 [] 58 [some (.ref o), some (.int (nI b1)), some (.int (nI l1)), some (.int (nI g)), some (.int (tf_on 10000 q)), some (.int (nI k)), none, none, none] [.int (S (tf_rf G o 1) (Int32.toNatClampNeg 364)), .int (nI k)] S rfl ⟨by decide, by decide, rfl⟩ ⟨⟨trivial, ⟨by first | assumption | rfl | decide | omega, by first | assumption | rfl | decide | omega⟩⟩, ⟨Or.inl (by first | assumption | rfl | decide | omega), by first | assumption | exact tf_in (n := 364) (rfl : (364 : Int32) = nI 364) (by first | assumption | rfl) (by omega) (by decide)⟩⟩ ?_
            rw [show (S (tf_rf G o 1) (Int32.toNatClampNeg 364)) = nI (A.1 364) from (tf_rd hs (rfl : (364 : Int32) = nI 364) (by omega))]
            by_cases d1 : k < A.1 364
            · rw [if_pos ⟨d0, d1⟩] at he
              have l3 := g6 k d1
              have l2 := g6 (k - 1) (by omega)
              rw [show 144 + (k - 1) = 144 + k - 1 by omega] at l2
              refine tf_go hx ftX11_span 1 [false] 61 [some (.ref o), some (.int (nI b1)), some (.int (nI l1)), some (.int (nI g)), some (.int (tf_on 10000 q)), some (.int (nI k)), none, none, none] [] S rfl ⟨by decide, by decide, rfl⟩ ⟨trivial, (tf_leF (a := (A.1 364)) (b := k) rfl rfl (by have := hb 364; omega) (by have := hb 364; omega) (by have := hb 364; omega))⟩ ?_
              refine tf_go hx ftX11_span 8 [] 74 [some (.ref o), some (.int (nI b1)), some (.int (nI l1)), some (.int (nI g)), some (.int (tf_on 10000 q)), some (.int (nI k)), none, none, none] [.int (S (tf_rf G o 1) (Int32.toNatClampNeg (144 + (nI k)))), .int (nI b1), .ref o] S rfl ⟨by decide, by decide, rfl⟩ ⟨⟨trivial, ⟨by first | assumption | rfl | decide | omega, by first | assumption | rfl | decide | omega⟩⟩, ⟨Or.inl (by first | assumption | rfl | decide | omega), by first | assumption | exact tf_in (n := (144 + k)) (tf_add (a := 144) (b := k) (rfl : (144 : Int32) = nI 144) rfl) (by first | assumption | rfl) (by omega) (by decide)⟩⟩ ?_
              rw [show (S (tf_rf G o 1) (Int32.toNatClampNeg (144 + (nI k)))) = nI (A.1 (144 + k)) from (tf_rd hs (tf_add (a := 144) (b := k) (rfl : (144 : Int32) = nI 144) rfl) (by omega))]
              refine tf_cV hx ftX11_span (nx := 77) (As := [.int (nI b1), .int (nI (A.1 (144 + k)))]) (rest := []) (st2 := [.int (tf_on 30 (tf_ke A.1 b1 (A.1 (144 + k))))]) (m_keyAt b1 (A.1 (144 + k)) ho hf b1_lt (by omega)) rfl lX11_51 (by first | assumption | rfl | decide) rfl ⟨rfl, by decide, by decide, by decide, rfl, rfl⟩ ?_
              refine tf_go hx ftX11_span 11 [] 94 [some (.ref o), some (.int (nI b1)), some (.int (nI l1)), some (.int (nI g)), some (.int (tf_on 10000 q)), some (.int (nI k)), some (.int (tf_on 30 (tf_ke A.1 b1 (A.1 (144 + k))))), none, none] [.int (S (tf_rf G o 1) (Int32.toNatClampNeg ((144 + (nI k)) - 1))), .int (nI b1), .ref o] S rfl ⟨by decide, by decide, rfl⟩ ⟨⟨trivial, ⟨by first | assumption | rfl | decide | omega, by first | assumption | rfl | decide | omega⟩⟩, ⟨Or.inl (by first | assumption | rfl | decide | omega), by first | assumption | exact tf_in (n := ((144 + k) - 1)) (tf_sub (a := (144 + k)) (b := 1) (tf_add (a := 144) (b := k) (rfl : (144 : Int32) = nI 144) rfl) (rfl : (1 : Int32) = nI 1) (by omega)) (by first | assumption | rfl) (by omega) (by decide)⟩⟩ ?_
              rw [show (S (tf_rf G o 1) (Int32.toNatClampNeg ((144 + (nI k)) - 1))) = nI (A.1 ((144 + k) - 1)) from (tf_rd hs (tf_sub (a := (144 + k)) (b := 1) (tf_add (a := 144) (b := k) (rfl : (144 : Int32) = nI 144) rfl) (rfl : (1 : Int32) = nI 1) (by omega)) (by omega))]
              refine tf_cV hx ftX11_span (nx := 97) (As := [.int (nI b1), .int (nI (A.1 ((144 + k) - 1)))]) (rest := []) (st2 := [.int (tf_on 30 (tf_ke A.1 b1 (A.1 (144 + k - 1))))]) (m_keyAt b1 (A.1 (144 + k - 1)) ho hf b1_lt (by omega)) rfl lX11_51 (by first | assumption | rfl | decide) rfl ⟨rfl, by decide, by decide, by decide, rfl, rfl⟩ ?_
              have k1 := tf_ke_le A.1 b1 (A.1 (144 + k))
              have k2 := tf_ke_le A.1 b1 (A.1 (144 + k - 1))
              generalize hsc : tf_sc A.1 b1 l1 k = sc at he
              unfold tf_sc at hsc
              generalize hu : tf_ke A.1 b1 (A.1 (144 + k)) = u at *
              generalize hv : tf_ke A.1 b1 (A.1 (144 + k - 1)) = v at *
              by_cases e2 : u < 30
              · rw [tf_on_y e2]
                refine tf_go hx ftX11_span 2 [] 101 [some (.ref o), some (.int (nI b1)), some (.int (nI l1)), some (.int (nI g)), some (.int (tf_on 10000 q)), some (.int (nI k)), some (.int (nI u)), some (.int (tf_on 30 v)), none] [.int (nI u)] S rfl ⟨by decide, by decide, rfl⟩ trivial ?_
                refine tf_go hx ftX11_span 1 [false] 104 [some (.ref o), some (.int (nI b1)), some (.int (nI l1)), some (.int (nI g)), some (.int (tf_on 10000 q)), some (.int (nI k)), some (.int (nI u)), some (.int (tf_on 30 v)), none] [] S rfl ⟨by decide, by decide, rfl⟩ ⟨trivial, (tf_ltF (a := u) (b := 0) rfl (rfl : (0 : Int32) = nI 0) (by omega) (by omega) (by omega))⟩ ?_
                by_cases e3 : v < 30
                · rw [tf_on_y e3]
                  refine tf_go hx ftX11_span 1 [] 106 [some (.ref o), some (.int (nI b1)), some (.int (nI l1)), some (.int (nI g)), some (.int (tf_on 10000 q)), some (.int (nI k)), some (.int (nI u)), some (.int (nI v)), none] [.int (nI v)] S rfl ⟨by decide, by decide, rfl⟩ trivial ?_
                  refine tf_go hx ftX11_span 1 [false] 109 [some (.ref o), some (.int (nI b1)), some (.int (nI l1)), some (.int (nI g)), some (.int (tf_on 10000 q)), some (.int (nI k)), some (.int (nI u)), some (.int (nI v)), none] [] S rfl ⟨by decide, by decide, rfl⟩ ⟨trivial, (tf_ltF (a := v) (b := 0) rfl (rfl : (0 : Int32) = nI 0) (by omega) (by omega) (by omega))⟩ ?_
                  refine tf_go hx ftX11_span 3 [] 114 [some (.ref o), some (.int (nI b1)), some (.int (nI l1)), some (.int (nI g)), some (.int (tf_on 10000 q)), some (.int (nI k)), some (.int (nI u)), some (.int (nI v)), none] [.int 0, .int (nI u), .int (nI v)] S rfl ⟨by decide, by decide, rfl⟩ trivial ?_
                  refine tf_cS hx ftX11_span (nx := 117) (As := [.int (nI v), .int (nI u), .int 0]) (rest := []) (st2 := [.int (nI (tf_la v u 0))]) (m_lawOf v u 0 (by omega) (by omega) (by decide)) rfl lX11_72 rfl ⟨rfl, by decide, by decide, by decide, rfl, rfl⟩ ?_
                  have la := tf_la_le v u 0
                  refine tf_go hx ftX11_span 1 [] 118 [some (.ref o), some (.int (nI b1)), some (.int (nI l1)), some (.int (nI g)), some (.int (tf_on 10000 q)), some (.int (nI k)), some (.int (nI u)), some (.int (nI v)), none] [.int (nI l1), .int (nI (tf_la v u 0))] S rfl ⟨by decide, by decide, rfl⟩ trivial ?_
                  by_cases e4 : tf_la v u 0 = l1
                  · refine tf_go hx ftX11_span 1 [false] 121 [some (.ref o), some (.int (nI b1)), some (.int (nI l1)), some (.int (nI g)), some (.int (tf_on 10000 q)), some (.int (nI k)), some (.int (nI u)), some (.int (nI v)), none] [] S rfl ⟨by decide, by decide, rfl⟩ ⟨trivial, (tf_neF (a := (tf_la v u 0)) (b := l1) rfl rfl (by omega))⟩ ?_
                    refine tf_go hx ftX11_span 2 [] 123 [some (.ref o), some (.int (nI b1)), some (.int (nI l1)), some (.int (nI g)), some (.int (tf_on 10000 q)), some (.int (nI k)), some (.int (nI u)), some (.int (nI v)), none] [.int 1, .int (nI l1)] S rfl ⟨by decide, by decide, rfl⟩ trivial ?_
                    by_cases e5 : l1 = 1
                    · refine tf_go hx ftX11_span 1 [false] 126 [some (.ref o), some (.int (nI b1)), some (.int (nI l1)), some (.int (nI g)), some (.int (tf_on 10000 q)), some (.int (nI k)), some (.int (nI u)), some (.int (nI v)), none] [] S rfl ⟨by decide, by decide, rfl⟩ ⟨trivial, (tf_neF (a := l1) (b := 1) rfl (rfl : (1 : Int32) = nI 1) (by omega))⟩ ?_
                      refine tf_go hx ftX11_span 6 [] 136 [some (.ref o), some (.int (nI b1)), some (.int (nI l1)), some (.int (nI g)), some (.int (tf_on 10000 q)), some (.int (nI k)), some (.int (nI u)), some (.int (nI v)), none] [.int ((nI u) / 10), .int ((nI v) / 10)] S rfl ⟨by decide, by decide, rfl⟩ ⟨⟨trivial, (by decide)⟩, (by decide)⟩ ?_
                      rw [show ((nI u) / 10) = nI (u / 10) from (tf_div (a := u) (d := 10) rfl (rfl : (10 : Int32) = nI 10) (by omega) (by omega) (by omega))]
                      rw [show ((nI v) / 10) = nI (v / 10) from (tf_div (a := v) (d := 10) rfl (rfl : (10 : Int32) = nI 10) (by omega) (by omega) (by omega))]
                      by_cases e6 : v / 10 = u / 10
                      · refine tf_go hx ftX11_span 1 [true] 142 [some (.ref o), some (.int (nI b1)), some (.int (nI l1)), some (.int (nI g)), some (.int (tf_on 10000 q)), some (.int (nI k)), some (.int (nI u)), some (.int (nI v)), none] [] S rfl ⟨by decide, by decide, rfl⟩ ⟨trivial, (tf_eqT (a := (v / 10)) (b := (u / 10)) rfl rfl (by omega))⟩ ?_
                        have hn : sc = true := by rw [← hsc]; simp [e2, e3, e4, e6]
                        rw [hn, if_pos rfl] at he
                        refine tf_go hx ftX11_span 8 [] 157 [some (.ref o), some (.int (nI b1)), some (.int (nI l1)), some (.int (nI g)), some (.int (tf_on 10000 q)), some (.int (nI k)), some (.int (nI u)), some (.int (nI v)), some (.int (S (tf_rf G o 1) (Int32.toNatClampNeg (324 + (nI k)))))] [.int (tf_on 10000 q)] S rfl ⟨by decide, by decide, rfl⟩ ⟨⟨trivial, ⟨by first | assumption | rfl | decide | omega, by first | assumption | rfl | decide | omega⟩⟩, ⟨Or.inl (by first | assumption | rfl | decide | omega), by first | assumption | exact tf_in (n := (324 + k)) (tf_add (a := 324) (b := k) (rfl : (324 : Int32) = nI 324) rfl) (by first | assumption | rfl) (by omega) (by decide)⟩⟩ ?_
                        rw [show (S (tf_rf G o 1) (Int32.toNatClampNeg (324 + (nI k)))) = nI (A.1 (324 + k)) from (tf_rd hs (tf_add (a := 324) (b := k) (rfl : (324 : Int32) = nI 324) rfl) (by omega))]
                        by_cases f1 : q < 10000
                        · rw [tf_on_y f1]
                          refine tf_go hx ftX11_span 1 [false] 160 [some (.ref o), some (.int (nI b1)), some (.int (nI l1)), some (.int (nI g)), some (.int (nI q)), some (.int (nI k)), some (.int (nI u)), some (.int (nI v)), some (.int (nI (A.1 (324 + k))))] [] S rfl ⟨by decide, by decide, rfl⟩ ⟨trivial, (tf_ltF (a := q) (b := 0) rfl (rfl : (0 : Int32) = nI 0) (by omega) (by omega) (by omega))⟩ ?_
                          refine tf_go hx ftX11_span 1 [] 161 [some (.ref o), some (.int (nI b1)), some (.int (nI l1)), some (.int (nI g)), some (.int (nI q)), some (.int (nI k)), some (.int (nI u)), some (.int (nI v)), some (.int (nI (A.1 (324 + k))))] [.int (nI g)] S rfl ⟨by decide, by decide, rfl⟩ trivial ?_
                          by_cases f2 : g = 0
                          · refine tf_go hx ftX11_span 1 [true] 174 [some (.ref o), some (.int (nI b1)), some (.int (nI l1)), some (.int (nI g)), some (.int (nI q)), some (.int (nI k)), some (.int (nI u)), some (.int (nI v)), some (.int (nI (A.1 (324 + k))))] [] S rfl ⟨by decide, by decide, rfl⟩ ⟨trivial, (tf_eqT (a := g) (b := 0) rfl (rfl : (0 : Int32) = nI 0) (by omega))⟩ ?_
                            refine tf_go hx ftX11_span 2 [] 178 [some (.ref o), some (.int (nI b1)), some (.int (nI l1)), some (.int (nI g)), some (.int (nI q)), some (.int (nI k)), some (.int (nI u)), some (.int (nI v)), some (.int (nI (A.1 (324 + k))))] [.int (nI q), .int (nI (A.1 (324 + k)))] S rfl ⟨by decide, by decide, rfl⟩ trivial ?_
                            by_cases f3 : A.1 (324 + k) < q
                            · rw [if_pos (Or.inr (by rw [if_neg (fun h => h f2)]; exact f3))] at he
                              refine tf_go hx ftX11_span 6 [false] 35 [some (.ref o), some (.int (nI b1)), some (.int (nI l1)), some (.int (nI g)), some (.int (nI (A.1 (324 + k)))), some (.int ((nI k) + 1)), some (.int (nI u)), some (.int (nI v)), some (.int (nI (A.1 (324 + k))))] [] S rfl ⟨by decide, by decide, rfl⟩ ⟨trivial, (tf_leF (a := q) (b := (A.1 (324 + k))) rfl rfl (by have := hb (324 + k); omega) (by have := hb (324 + k); omega) (by have := hb (324 + k); omega))⟩ ?_
                              rw [show ((nI k) + 1) = nI (k + 1) from (tf_add (a := k) (b := 1) rfl (rfl : (1 : Int32) = nI 1))]
                              have gq := hb (324 + k)
                              refine tf_fgt [some (.ref o), some (.int (nI b1)), some (.int (nI l1)), some (.int (nI g)), some (.int (nI (A.1 (324 + k)))), some (.int (nI (k + 1))), none, none, none] (by simp [tf_lss]) ?_
                              have h0 := ih (k + 1) (A.1 (324 + k)) (by omega) he (by omega) (Or.inr gq)
                              rw [tf_on_y gq] at h0
                              exact h0
                            · rw [if_neg (by rintro (h | h); omega; rw [if_neg (fun h => h f2)] at h; exact f3 h)] at he
                              refine tf_go hx ftX11_span 5 [true] 35 [some (.ref o), some (.int (nI b1)), some (.int (nI l1)), some (.int (nI g)), some (.int (nI q)), some (.int ((nI k) + 1)), some (.int (nI u)), some (.int (nI v)), some (.int (nI (A.1 (324 + k))))] [] S rfl ⟨by decide, by decide, rfl⟩ ⟨trivial, (tf_leT (a := q) (b := (A.1 (324 + k))) rfl rfl (by have := hb (324 + k); omega) (by have := hb (324 + k); omega) (by have := hb (324 + k); omega))⟩ ?_
                              rw [show ((nI k) + 1) = nI (k + 1) from (tf_add (a := k) (b := 1) rfl (rfl : (1 : Int32) = nI 1))]
                              refine tf_fgt [some (.ref o), some (.int (nI b1)), some (.int (nI l1)), some (.int (nI g)), some (.int (nI q)), some (.int (nI (k + 1))), none, none, none] (by simp [tf_lss]) ?_
                              have h0 := ih (k + 1) q (by omega) he (by omega) hq
                              rw [tf_on_y f1] at h0
                              exact h0
                          · refine tf_go hx ftX11_span 1 [false] 164 [some (.ref o), some (.int (nI b1)), some (.int (nI l1)), some (.int (nI g)), some (.int (nI q)), some (.int (nI k)), some (.int (nI u)), some (.int (nI v)), some (.int (nI (A.1 (324 + k))))] [] S rfl ⟨by decide, by decide, rfl⟩ ⟨trivial, (tf_eqF (a := g) (b := 0) rfl (rfl : (0 : Int32) = nI 0) (by omega) (by omega) (by omega))⟩ ?_
                            refine tf_go hx ftX11_span 2 [] 168 [some (.ref o), some (.int (nI b1)), some (.int (nI l1)), some (.int (nI g)), some (.int (nI q)), some (.int (nI k)), some (.int (nI u)), some (.int (nI v)), some (.int (nI (A.1 (324 + k))))] [.int (nI q), .int (nI (A.1 (324 + k)))] S rfl ⟨by decide, by decide, rfl⟩ trivial ?_
                            by_cases f3 : q < A.1 (324 + k)
                            · rw [if_pos (Or.inr (by rw [if_pos f2]; exact f3))] at he
                              refine tf_go hx ftX11_span 7 [false] 35 [some (.ref o), some (.int (nI b1)), some (.int (nI l1)), some (.int (nI g)), some (.int (nI (A.1 (324 + k)))), some (.int ((nI k) + 1)), some (.int (nI u)), some (.int (nI v)), some (.int (nI (A.1 (324 + k))))] [] S rfl ⟨by decide, by decide, rfl⟩ ⟨trivial, (tf_leF (a := (A.1 (324 + k))) (b := q) rfl rfl (by have := hb (324 + k); omega) (by have := hb (324 + k); omega) (by have := hb (324 + k); omega))⟩ ?_
                              rw [show ((nI k) + 1) = nI (k + 1) from (tf_add (a := k) (b := 1) rfl (rfl : (1 : Int32) = nI 1))]
                              have gq := hb (324 + k)
                              refine tf_fgt [some (.ref o), some (.int (nI b1)), some (.int (nI l1)), some (.int (nI g)), some (.int (nI (A.1 (324 + k)))), some (.int (nI (k + 1))), none, none, none] (by simp [tf_lss]) ?_
                              have h0 := ih (k + 1) (A.1 (324 + k)) (by omega) he (by omega) (Or.inr gq)
                              rw [tf_on_y gq] at h0
                              exact h0
                            · rw [if_neg (by rintro (h | h); omega; rw [if_pos f2] at h; exact f3 h)] at he
                              refine tf_go hx ftX11_span 5 [true] 35 [some (.ref o), some (.int (nI b1)), some (.int (nI l1)), some (.int (nI g)), some (.int (nI q)), some (.int ((nI k) + 1)), some (.int (nI u)), some (.int (nI v)), some (.int (nI (A.1 (324 + k))))] [] S rfl ⟨by decide, by decide, rfl⟩ ⟨trivial, (tf_leT (a := (A.1 (324 + k))) (b := q) rfl rfl (by have := hb (324 + k); omega) (by have := hb (324 + k); omega) (by have := hb (324 + k); omega))⟩ ?_
                              rw [show ((nI k) + 1) = nI (k + 1) from (tf_add (a := k) (b := 1) rfl (rfl : (1 : Int32) = nI 1))]
                              refine tf_fgt [some (.ref o), some (.int (nI b1)), some (.int (nI l1)), some (.int (nI g)), some (.int (nI q)), some (.int (nI (k + 1))), none, none, none] (by simp [tf_lss]) ?_
                              have h0 := ih (k + 1) q (by omega) he (by omega) hq
                              rw [tf_on_y f1] at h0
                              exact h0
                        · rw [if_pos (Or.inl (by omega))] at he
                          rw [tf_on_n f1]
                          refine tf_go hx ftX11_span 6 [true] 35 [some (.ref o), some (.int (nI b1)), some (.int (nI l1)), some (.int (nI g)), some (.int (nI (A.1 (324 + k)))), some (.int ((nI k) + 1)), some (.int (nI u)), some (.int (nI v)), some (.int (nI (A.1 (324 + k))))] [] S rfl ⟨by decide, by decide, rfl⟩ ⟨trivial, (by decide)⟩ ?_
                          rw [show ((nI k) + 1) = nI (k + 1) from (tf_add (a := k) (b := 1) rfl (rfl : (1 : Int32) = nI 1))]
                          have gq := hb (324 + k)
                          refine tf_fgt [some (.ref o), some (.int (nI b1)), some (.int (nI l1)), some (.int (nI g)), some (.int (nI (A.1 (324 + k)))), some (.int (nI (k + 1))), none, none, none] (by simp [tf_lss]) ?_
                          have h0 := ih (k + 1) (A.1 (324 + k)) (by omega) he (by omega) (Or.inr gq)
                          rw [tf_on_y gq] at h0
                          exact h0
                      · refine tf_go hx ftX11_span 4 [false] 35 [some (.ref o), some (.int (nI b1)), some (.int (nI l1)), some (.int (nI g)), some (.int (tf_on 10000 q)), some (.int ((nI k) + 1)), some (.int (nI u)), some (.int (nI v)), none] [] S rfl ⟨by decide, by decide, rfl⟩ ⟨trivial, (tf_eqF (a := (v / 10)) (b := (u / 10)) rfl rfl (by omega) (by omega) (by omega))⟩ ?_
                        rw [show ((nI k) + 1) = nI (k + 1) from (tf_add (a := k) (b := 1) rfl (rfl : (1 : Int32) = nI 1))]
                        have hn : sc = false := by rw [← hsc]; simp [e4, e5, e6]
                        rw [hn, if_neg (by decide)] at he
                        refine tf_fgt [some (.ref o), some (.int (nI b1)), some (.int (nI l1)), some (.int (nI g)), some (.int (tf_on 10000 q)), some (.int (nI (k + 1))), none, none, none] (by simp [tf_lss]) ?_
                        exact ih (k + 1) q (by omega) he (by omega) hq
                    · refine tf_go hx ftX11_span 1 [true] 142 [some (.ref o), some (.int (nI b1)), some (.int (nI l1)), some (.int (nI g)), some (.int (tf_on 10000 q)), some (.int (nI k)), some (.int (nI u)), some (.int (nI v)), none] [] S rfl ⟨by decide, by decide, rfl⟩ ⟨trivial, (tf_eqF (a := l1) (b := 1) rfl (rfl : (1 : Int32) = nI 1) (by omega) (by omega) (by omega))⟩ ?_
                      have hn : sc = true := by rw [← hsc]; simp [e2, e3, e4, e5]
                      rw [hn, if_pos rfl] at he
                      refine tf_go hx ftX11_span 8 [] 157 [some (.ref o), some (.int (nI b1)), some (.int (nI l1)), some (.int (nI g)), some (.int (tf_on 10000 q)), some (.int (nI k)), some (.int (nI u)), some (.int (nI v)), some (.int (S (tf_rf G o 1) (Int32.toNatClampNeg (324 + (nI k)))))] [.int (tf_on 10000 q)] S rfl ⟨by decide, by decide, rfl⟩ ⟨⟨trivial, ⟨by first | assumption | rfl | decide | omega, by first | assumption | rfl | decide | omega⟩⟩, ⟨Or.inl (by first | assumption | rfl | decide | omega), by first | assumption | exact tf_in (n := (324 + k)) (tf_add (a := 324) (b := k) (rfl : (324 : Int32) = nI 324) rfl) (by first | assumption | rfl) (by omega) (by decide)⟩⟩ ?_
                      rw [show (S (tf_rf G o 1) (Int32.toNatClampNeg (324 + (nI k)))) = nI (A.1 (324 + k)) from (tf_rd hs (tf_add (a := 324) (b := k) (rfl : (324 : Int32) = nI 324) rfl) (by omega))]
                      by_cases f1 : q < 10000
                      · rw [tf_on_y f1]
                        refine tf_go hx ftX11_span 1 [false] 160 [some (.ref o), some (.int (nI b1)), some (.int (nI l1)), some (.int (nI g)), some (.int (nI q)), some (.int (nI k)), some (.int (nI u)), some (.int (nI v)), some (.int (nI (A.1 (324 + k))))] [] S rfl ⟨by decide, by decide, rfl⟩ ⟨trivial, (tf_ltF (a := q) (b := 0) rfl (rfl : (0 : Int32) = nI 0) (by omega) (by omega) (by omega))⟩ ?_
                        refine tf_go hx ftX11_span 1 [] 161 [some (.ref o), some (.int (nI b1)), some (.int (nI l1)), some (.int (nI g)), some (.int (nI q)), some (.int (nI k)), some (.int (nI u)), some (.int (nI v)), some (.int (nI (A.1 (324 + k))))] [.int (nI g)] S rfl ⟨by decide, by decide, rfl⟩ trivial ?_
                        by_cases f2 : g = 0
                        · refine tf_go hx ftX11_span 1 [true] 174 [some (.ref o), some (.int (nI b1)), some (.int (nI l1)), some (.int (nI g)), some (.int (nI q)), some (.int (nI k)), some (.int (nI u)), some (.int (nI v)), some (.int (nI (A.1 (324 + k))))] [] S rfl ⟨by decide, by decide, rfl⟩ ⟨trivial, (tf_eqT (a := g) (b := 0) rfl (rfl : (0 : Int32) = nI 0) (by omega))⟩ ?_
                          refine tf_go hx ftX11_span 2 [] 178 [some (.ref o), some (.int (nI b1)), some (.int (nI l1)), some (.int (nI g)), some (.int (nI q)), some (.int (nI k)), some (.int (nI u)), some (.int (nI v)), some (.int (nI (A.1 (324 + k))))] [.int (nI q), .int (nI (A.1 (324 + k)))] S rfl ⟨by decide, by decide, rfl⟩ trivial ?_
                          by_cases f3 : A.1 (324 + k) < q
                          · rw [if_pos (Or.inr (by rw [if_neg (fun h => h f2)]; exact f3))] at he
                            refine tf_go hx ftX11_span 6 [false] 35 [some (.ref o), some (.int (nI b1)), some (.int (nI l1)), some (.int (nI g)), some (.int (nI (A.1 (324 + k)))), some (.int ((nI k) + 1)), some (.int (nI u)), some (.int (nI v)), some (.int (nI (A.1 (324 + k))))] [] S rfl ⟨by decide, by decide, rfl⟩ ⟨trivial, (tf_leF (a := q) (b := (A.1 (324 + k))) rfl rfl (by have := hb (324 + k); omega) (by have := hb (324 + k); omega) (by have := hb (324 + k); omega))⟩ ?_
                            rw [show ((nI k) + 1) = nI (k + 1) from (tf_add (a := k) (b := 1) rfl (rfl : (1 : Int32) = nI 1))]
                            have gq := hb (324 + k)
                            refine tf_fgt [some (.ref o), some (.int (nI b1)), some (.int (nI l1)), some (.int (nI g)), some (.int (nI (A.1 (324 + k)))), some (.int (nI (k + 1))), none, none, none] (by simp [tf_lss]) ?_
                            have h0 := ih (k + 1) (A.1 (324 + k)) (by omega) he (by omega) (Or.inr gq)
                            rw [tf_on_y gq] at h0
                            exact h0
                          · rw [if_neg (by rintro (h | h); omega; rw [if_neg (fun h => h f2)] at h; exact f3 h)] at he
                            refine tf_go hx ftX11_span 5 [true] 35 [some (.ref o), some (.int (nI b1)), some (.int (nI l1)), some (.int (nI g)), some (.int (nI q)), some (.int ((nI k) + 1)), some (.int (nI u)), some (.int (nI v)), some (.int (nI (A.1 (324 + k))))] [] S rfl ⟨by decide, by decide, rfl⟩ ⟨trivial, (tf_leT (a := q) (b := (A.1 (324 + k))) rfl rfl (by have := hb (324 + k); omega) (by have := hb (324 + k); omega) (by have := hb (324 + k); omega))⟩ ?_
                            rw [show ((nI k) + 1) = nI (k + 1) from (tf_add (a := k) (b := 1) rfl (rfl : (1 : Int32) = nI 1))]
                            refine tf_fgt [some (.ref o), some (.int (nI b1)), some (.int (nI l1)), some (.int (nI g)), some (.int (nI q)), some (.int (nI (k + 1))), none, none, none] (by simp [tf_lss]) ?_
                            have h0 := ih (k + 1) q (by omega) he (by omega) hq
                            rw [tf_on_y f1] at h0
                            exact h0
                        · refine tf_go hx ftX11_span 1 [false] 164 [some (.ref o), some (.int (nI b1)), some (.int (nI l1)), some (.int (nI g)), some (.int (nI q)), some (.int (nI k)), some (.int (nI u)), some (.int (nI v)), some (.int (nI (A.1 (324 + k))))] [] S rfl ⟨by decide, by decide, rfl⟩ ⟨trivial, (tf_eqF (a := g) (b := 0) rfl (rfl : (0 : Int32) = nI 0) (by omega) (by omega) (by omega))⟩ ?_
                          refine tf_go hx ftX11_span 2 [] 168 [some (.ref o), some (.int (nI b1)), some (.int (nI l1)), some (.int (nI g)), some (.int (nI q)), some (.int (nI k)), some (.int (nI u)), some (.int (nI v)), some (.int (nI (A.1 (324 + k))))] [.int (nI q), .int (nI (A.1 (324 + k)))] S rfl ⟨by decide, by decide, rfl⟩ trivial ?_
                          by_cases f3 : q < A.1 (324 + k)
                          · rw [if_pos (Or.inr (by rw [if_pos f2]; exact f3))] at he
                            refine tf_go hx ftX11_span 7 [false] 35 [some (.ref o), some (.int (nI b1)), some (.int (nI l1)), some (.int (nI g)), some (.int (nI (A.1 (324 + k)))), some (.int ((nI k) + 1)), some (.int (nI u)), some (.int (nI v)), some (.int (nI (A.1 (324 + k))))] [] S rfl ⟨by decide, by decide, rfl⟩ ⟨trivial, (tf_leF (a := (A.1 (324 + k))) (b := q) rfl rfl (by have := hb (324 + k); omega) (by have := hb (324 + k); omega) (by have := hb (324 + k); omega))⟩ ?_
                            rw [show ((nI k) + 1) = nI (k + 1) from (tf_add (a := k) (b := 1) rfl (rfl : (1 : Int32) = nI 1))]
                            have gq := hb (324 + k)
                            refine tf_fgt [some (.ref o), some (.int (nI b1)), some (.int (nI l1)), some (.int (nI g)), some (.int (nI (A.1 (324 + k)))), some (.int (nI (k + 1))), none, none, none] (by simp [tf_lss]) ?_
                            have h0 := ih (k + 1) (A.1 (324 + k)) (by omega) he (by omega) (Or.inr gq)
                            rw [tf_on_y gq] at h0
                            exact h0
                          · rw [if_neg (by rintro (h | h); omega; rw [if_pos f2] at h; exact f3 h)] at he
                            refine tf_go hx ftX11_span 5 [true] 35 [some (.ref o), some (.int (nI b1)), some (.int (nI l1)), some (.int (nI g)), some (.int (nI q)), some (.int ((nI k) + 1)), some (.int (nI u)), some (.int (nI v)), some (.int (nI (A.1 (324 + k))))] [] S rfl ⟨by decide, by decide, rfl⟩ ⟨trivial, (tf_leT (a := (A.1 (324 + k))) (b := q) rfl rfl (by have := hb (324 + k); omega) (by have := hb (324 + k); omega) (by have := hb (324 + k); omega))⟩ ?_
                            rw [show ((nI k) + 1) = nI (k + 1) from (tf_add (a := k) (b := 1) rfl (rfl : (1 : Int32) = nI 1))]
                            refine tf_fgt [some (.ref o), some (.int (nI b1)), some (.int (nI l1)), some (.int (nI g)), some (.int (nI q)), some (.int (nI (k + 1))), none, none, none] (by simp [tf_lss]) ?_
                            have h0 := ih (k + 1) q (by omega) he (by omega) hq
                            rw [tf_on_y f1] at h0
                            exact h0
                      · rw [if_pos (Or.inl (by omega))] at he
                        rw [tf_on_n f1]
                        refine tf_go hx ftX11_span 6 [true] 35 [some (.ref o), some (.int (nI b1)), some (.int (nI l1)), some (.int (nI g)), some (.int (nI (A.1 (324 + k)))), some (.int ((nI k) + 1)), some (.int (nI u)), some (.int (nI v)), some (.int (nI (A.1 (324 + k))))] [] S rfl ⟨by decide, by decide, rfl⟩ ⟨trivial, (by decide)⟩ ?_
                        rw [show ((nI k) + 1) = nI (k + 1) from (tf_add (a := k) (b := 1) rfl (rfl : (1 : Int32) = nI 1))]
                        have gq := hb (324 + k)
                        refine tf_fgt [some (.ref o), some (.int (nI b1)), some (.int (nI l1)), some (.int (nI g)), some (.int (nI (A.1 (324 + k)))), some (.int (nI (k + 1))), none, none, none] (by simp [tf_lss]) ?_
                        have h0 := ih (k + 1) (A.1 (324 + k)) (by omega) he (by omega) (Or.inr gq)
                        rw [tf_on_y gq] at h0
                        exact h0
                  · refine tf_go hx ftX11_span 3 [true] 35 [some (.ref o), some (.int (nI b1)), some (.int (nI l1)), some (.int (nI g)), some (.int (tf_on 10000 q)), some (.int ((nI k) + 1)), some (.int (nI u)), some (.int (nI v)), none] [] S rfl ⟨by decide, by decide, rfl⟩ ⟨trivial, (tf_eqF (a := (tf_la v u 0)) (b := l1) rfl rfl (by omega) (by omega) (by omega))⟩ ?_
                    rw [show ((nI k) + 1) = nI (k + 1) from (tf_add (a := k) (b := 1) rfl (rfl : (1 : Int32) = nI 1))]
                    have hn : sc = false := by rw [← hsc]; simp [e4]
                    rw [hn, if_neg (by decide)] at he
                    refine tf_fgt [some (.ref o), some (.int (nI b1)), some (.int (nI l1)), some (.int (nI g)), some (.int (tf_on 10000 q)), some (.int (nI (k + 1))), none, none, none] (by simp [tf_lss]) ?_
                    exact ih (k + 1) q (by omega) he (by omega) hq
                · rw [tf_on_n e3]
                  refine tf_go hx ftX11_span 1 [] 106 [some (.ref o), some (.int (nI b1)), some (.int (nI l1)), some (.int (nI g)), some (.int (tf_on 10000 q)), some (.int (nI k)), some (.int (nI u)), some (.int (-9)), none] [.int (-9)] S rfl ⟨by decide, by decide, rfl⟩ trivial ?_
                  refine tf_go hx ftX11_span 3 [true] 35 [some (.ref o), some (.int (nI b1)), some (.int (nI l1)), some (.int (nI g)), some (.int (tf_on 10000 q)), some (.int ((nI k) + 1)), some (.int (nI u)), some (.int (-9)), none] [] S rfl ⟨by decide, by decide, rfl⟩ ⟨trivial, (by decide)⟩ ?_
                  rw [show ((nI k) + 1) = nI (k + 1) from (tf_add (a := k) (b := 1) rfl (rfl : (1 : Int32) = nI 1))]
                  have hn : sc = false := by rw [← hsc]; simp [e3]
                  rw [hn, if_neg (by decide)] at he
                  refine tf_fgt [some (.ref o), some (.int (nI b1)), some (.int (nI l1)), some (.int (nI g)), some (.int (tf_on 10000 q)), some (.int (nI (k + 1))), none, none, none] (by simp [tf_lss]) ?_
                  exact ih (k + 1) q (by omega) he (by omega) hq
              · rw [tf_on_n e2]
                refine tf_go hx ftX11_span 2 [] 101 [some (.ref o), some (.int (nI b1)), some (.int (nI l1)), some (.int (nI g)), some (.int (tf_on 10000 q)), some (.int (nI k)), some (.int (-9)), some (.int (tf_on 30 v)), none] [.int (-9)] S rfl ⟨by decide, by decide, rfl⟩ trivial ?_
                refine tf_go hx ftX11_span 3 [true] 35 [some (.ref o), some (.int (nI b1)), some (.int (nI l1)), some (.int (nI g)), some (.int (tf_on 10000 q)), some (.int ((nI k) + 1)), some (.int (-9)), some (.int (tf_on 30 v)), none] [] S rfl ⟨by decide, by decide, rfl⟩ ⟨trivial, (by decide)⟩ ?_
                rw [show ((nI k) + 1) = nI (k + 1) from (tf_add (a := k) (b := 1) rfl (rfl : (1 : Int32) = nI 1))]
                have hn : sc = false := by rw [← hsc]; simp [e2]
                rw [hn, if_neg (by decide)] at he
                refine tf_fgt [some (.ref o), some (.int (nI b1)), some (.int (nI l1)), some (.int (nI g)), some (.int (tf_on 10000 q)), some (.int (nI (k + 1))), none, none, none] (by simp [tf_lss]) ?_
                exact ih (k + 1) q (by omega) he (by omega) hq
            · rw [if_neg (fun h => d1 h.2)] at he
              refine tf_go hx ftX11_span 2 [true] 198 [some (.ref o), some (.int (nI b1)), some (.int (nI l1)), some (.int (nI g)), some (.int (tf_on 10000 q)), some (.int (nI k)), none, none, none] [.int (tf_on 10000 q)] S rfl ⟨by decide, by decide, rfl⟩ ⟨trivial, (tf_leT (a := (A.1 364)) (b := k) rfl rfl (by have := hb 364; omega) (by have := hb 364; omega) (by have := hb 364; omega))⟩ ?_
              exact tf_ret ftX11_span hR rfl ⟨by decide, by decide⟩ rfl rfl (by rw [← he]; rfl)
          · rw [if_neg (fun h => d0 h.1)] at he
            refine tf_go hx ftX11_span 2 [true] 198 [some (.ref o), some (.int (nI b1)), some (.int (nI l1)), some (.int (nI g)), some (.int (tf_on 10000 q)), some (.int (nI k)), none, none, none] [.int (tf_on 10000 q)] S rfl ⟨by decide, by decide, rfl⟩ ⟨trivial, (tf_leT (a := (A.1 367)) (b := k) rfl rfl (by have := hb 367; omega) (by have := hb 367; omega) (by have := hb 367; omega))⟩ ?_
            exact tf_ret ftX11_span hR rfl ⟨by decide, by decide⟩ rfl rfl (by rw [← he]; rfl)
      exact loop 40 1 10000 (by omega) rfl (by omega) (Or.inl rfl)
    · rw [if_neg e1]
      refine ⟨tf_rfS G S o 2, tf_Fn_of (own := RX11) false ⟨by decide, rfl, by decide⟩ (Nat.le_of_ble_eq_true rfl) trivial (fun x hx hR => ?_), tf_ms_ref ho hd hM 2, tf_fm_0⟩
      show tf_K x 0 0 G S 0 [some (.ref o), some (.int (nI b1)), some (.int l), some (.int (nI g)), none, none, none, none, none] []
      refine tf_go hx ftX11_span 1 [] 1 [some (.ref o), some (.int (nI b1)), some (.int l), some (.int (nI g)), none, none, none, none, none] [.int (nI b1)] S rfl ⟨by decide, by decide, rfl⟩ trivial ?_
      refine tf_cS hx ftX11_span (nx := 4) (As := [.int (nI b1)]) (rest := []) (st2 := [.int (if ¬ (nI b1) < 0 ∧ ¬ 4 ≤ (nI b1) then 1 else 0)]) (m_isBoard (nI b1)) rfl lX11_40 rfl ⟨rfl, by decide, by decide, by decide, rfl, rfl⟩ ?_
      rw [if_pos c0]
      refine tf_go hx ftX11_span 1 [true] 13 [some (.ref o), some (.int (nI b1)), some (.int l), some (.int (nI g)), none, none, none, none, none] [] S rfl ⟨by decide, by decide, rfl⟩ ⟨trivial, (by decide)⟩ ?_
      refine tf_go hx ftX11_span 2 [] 15 [some (.ref o), some (.int (nI b1)), some (.int l), some (.int (nI g)), none, none, none, none, none] [.int 3, .int l] S rfl ⟨by decide, by decide, rfl⟩ trivial ?_
      refine tf_cS hx ftX11_span (nx := 18) (As := [.int l, .int 3]) (rest := []) (st2 := [.int (if ¬ l < 0 ∧ ¬ 3 ≤ l then 1 else 0)]) (m_isIn l 3) rfl lX11_22 rfl ⟨rfl, by decide, by decide, by decide, rfl, rfl⟩ ?_
      rw [if_neg e1]
      refine tf_go hx ftX11_span 3 [false] 24 [some (.ref o), some (.int (nI b1)), some (.int l), some (.int (nI g)), none, none, none, none, none] [.int (-2), .ref o] S rfl ⟨by decide, by decide, rfl⟩ ⟨trivial, (by decide)⟩ ?_
      refine tf_cV hx ftX11_span (nx := 27) (As := [.int (-2)]) (rest := []) (st2 := [.int (-2)]) (m_ref2 ho) rfl lX11_26 (by first | assumption | rfl | decide) rfl ⟨rfl, by decide, by decide, by decide, rfl, rfl⟩ ?_
      exact tf_ret ftX11_span hR rfl ⟨by decide, by decide⟩ rfl rfl rfl
  · rw [if_neg (fun h => c0 h)]
    refine ⟨tf_rfS G S o 1, tf_Fn_of (own := RX11) false ⟨by decide, rfl, by decide⟩ (Nat.le_of_ble_eq_true rfl) trivial (fun x hx hR => ?_), tf_ms_ref ho hd hM 1, tf_fm_0⟩
    show tf_K x 0 0 G S 0 [some (.ref o), some (.int b), some (.int l), some (.int (nI g)), none, none, none, none, none] []
    refine tf_go hx ftX11_span 1 [] 1 [some (.ref o), some (.int b), some (.int l), some (.int (nI g)), none, none, none, none, none] [.int b] S rfl ⟨by decide, by decide, rfl⟩ trivial ?_
    refine tf_cS hx ftX11_span (nx := 4) (As := [.int b]) (rest := []) (st2 := [.int (if ¬ b < 0 ∧ ¬ 4 ≤ b then 1 else 0)]) (m_isBoard b) rfl lX11_40 rfl ⟨rfl, by decide, by decide, by decide, rfl, rfl⟩ ?_
    rw [if_neg c0]
    refine tf_go hx ftX11_span 1 [false] 7 [some (.ref o), some (.int b), some (.int l), some (.int (nI g)), none, none, none, none, none] [] S rfl ⟨by decide, by decide, rfl⟩ ⟨trivial, (by decide)⟩ ?_
    refine tf_go hx ftX11_span 2 [] 9 [some (.ref o), some (.int b), some (.int l), some (.int (nI g)), none, none, none, none, none] [.int (-1), .ref o] S rfl ⟨by decide, by decide, rfl⟩ trivial ?_
    refine tf_cV hx ftX11_span (nx := 12) (As := [.int (-1)]) (rest := []) (st2 := [.int (-1)]) (m_ref1 ho) rfl lX11_26 (by first | assumption | rfl | decide) rfl ⟨rfl, by decide, by decide, by decide, rfl, rfl⟩ ?_
    exact tf_ret ftX11_span hR rfl ⟨by decide, by decide⟩ rfl rfl rfl

set_option maxHeartbeats 2000000 in
theorem p_pauses {G : tf_G} {S : tf_Sg} {o : Nat} {A : tf_A} (b l r : Int32) (ho : tf_mo G o) (hd : tf_md G o) (hA : tf_okA A) (hM : tf_ms G S o A)  : tf_pm mX11_pauses 3 G S o [.ref o, .int b, .int l, .int r] (s_pauses A b l r) := by
  obtain ⟨h1, ⟨r0, t0, n0⟩, ⟨r1, t1, n1⟩, ⟨r2, t2, n2⟩, ⟨r4, t4, n4⟩⟩ := id ho
  obtain ⟨hg, hb, hA3, hA4, hA5, hA6⟩ := id hA
  have hs := hM.1
  have hf : tf_sf G S o A.1 := ⟨hM.1, hb⟩
  obtain ⟨⟨g1, g2, g3, g4⟩, g5, g6, g7, g8, g9, g10, g11⟩ := id hg
  unfold s_pauses
  by_cases c0 : ¬ b < 0 ∧ ¬ 4 ≤ b
  · rw [if_pos c0]
    obtain ⟨b1, b1_lt, b1_eq, b1_cl⟩ := tf_ok_nI (N := 4) (show tf_ok b _ from c0) rfl (by decide)
    try rw [b1_cl]
    subst b1_eq
    by_cases e1 : l < 1
    · rw [if_pos (Or.inl e1)]
      refine ⟨tf_rfS G S o 4, tf_Fn_of (own := RX11) false ⟨by decide, rfl, by decide⟩ (Nat.le_of_ble_eq_true rfl) trivial (fun x hx hR => ?_), tf_ms_ref ho hd hM 4, tf_fm_0⟩
      show tf_K x 0 0 G S 0 [some (.ref o), some (.int (nI b1)), some (.int l), some (.int r), none, none, none, none] []
      refine tf_go hx ftX11_pauses 1 [] 1 [some (.ref o), some (.int (nI b1)), some (.int l), some (.int r), none, none, none, none] [.int (nI b1)] S rfl ⟨by decide, by decide, rfl⟩ trivial ?_
      refine tf_cS hx ftX11_pauses (nx := 4) (As := [.int (nI b1)]) (rest := []) (st2 := [.int (if ¬ (nI b1) < 0 ∧ ¬ 4 ≤ (nI b1) then 1 else 0)]) (m_isBoard (nI b1)) rfl lX11_40 rfl ⟨rfl, by decide, by decide, by decide, rfl, rfl⟩ ?_
      rw [if_pos c0]
      refine tf_go hx ftX11_pauses 1 [true] 13 [some (.ref o), some (.int (nI b1)), some (.int l), some (.int r), none, none, none, none] [] S rfl ⟨by decide, by decide, rfl⟩ ⟨trivial, (by decide)⟩ ?_
      refine tf_go hx ftX11_pauses 2 [] 15 [some (.ref o), some (.int (nI b1)), some (.int l), some (.int r), none, none, none, none] [.int 1, .int l] S rfl ⟨by decide, by decide, rfl⟩ trivial ?_
      refine tf_go hx ftX11_pauses 3 [true] 25 [some (.ref o), some (.int (nI b1)), some (.int l), some (.int r), none, none, none, none] [.int (-4), .ref o] S rfl ⟨by decide, by decide, rfl⟩ ⟨trivial, e1⟩ ?_
      refine tf_cV hx ftX11_pauses (nx := 28) (As := [.int (-4)]) (rest := []) (st2 := [.int (-4)]) (m_ref4 ho) rfl lX11_26 (by first | assumption | rfl | decide) rfl ⟨rfl, by decide, by decide, by decide, rfl, rfl⟩ ?_
      exact tf_ret ftX11_pauses hR rfl ⟨by decide, by decide⟩ rfl rfl rfl
    · by_cases e2 : r < 0
      · rw [if_pos (Or.inr e2)]
        refine ⟨tf_rfS G S o 4, tf_Fn_of (own := RX11) false ⟨by decide, rfl, by decide⟩ (Nat.le_of_ble_eq_true rfl) trivial (fun x hx hR => ?_), tf_ms_ref ho hd hM 4, tf_fm_0⟩
        show tf_K x 0 0 G S 0 [some (.ref o), some (.int (nI b1)), some (.int l), some (.int r), none, none, none, none] []
        refine tf_go hx ftX11_pauses 1 [] 1 [some (.ref o), some (.int (nI b1)), some (.int l), some (.int r), none, none, none, none] [.int (nI b1)] S rfl ⟨by decide, by decide, rfl⟩ trivial ?_
        refine tf_cS hx ftX11_pauses (nx := 4) (As := [.int (nI b1)]) (rest := []) (st2 := [.int (if ¬ (nI b1) < 0 ∧ ¬ 4 ≤ (nI b1) then 1 else 0)]) (m_isBoard (nI b1)) rfl lX11_40 rfl ⟨rfl, by decide, by decide, by decide, rfl, rfl⟩ ?_
        rw [if_pos c0]
        refine tf_go hx ftX11_pauses 1 [true] 13 [some (.ref o), some (.int (nI b1)), some (.int l), some (.int r), none, none, none, none] [] S rfl ⟨by decide, by decide, rfl⟩ ⟨trivial, (by decide)⟩ ?_
        refine tf_go hx ftX11_pauses 2 [] 15 [some (.ref o), some (.int (nI b1)), some (.int l), some (.int r), none, none, none, none] [.int 1, .int l] S rfl ⟨by decide, by decide, rfl⟩ trivial ?_
        refine tf_go hx ftX11_pauses 1 [false] 18 [some (.ref o), some (.int (nI b1)), some (.int l), some (.int r), none, none, none, none] [] S rfl ⟨by decide, by decide, rfl⟩ ⟨trivial, e1⟩ ?_
        refine tf_go hx ftX11_pauses 1 [] 19 [some (.ref o), some (.int (nI b1)), some (.int l), some (.int r), none, none, none, none] [.int r] S rfl ⟨by decide, by decide, rfl⟩ trivial ?_
        refine tf_go hx ftX11_pauses 3 [false] 25 [some (.ref o), some (.int (nI b1)), some (.int l), some (.int r), none, none, none, none] [.int (-4), .ref o] S rfl ⟨by decide, by decide, rfl⟩ ⟨trivial, (Int32.not_le.mpr e2)⟩ ?_
        refine tf_cV hx ftX11_pauses (nx := 28) (As := [.int (-4)]) (rest := []) (st2 := [.int (-4)]) (m_ref4 ho) rfl lX11_26 (by first | assumption | rfl | decide) rfl ⟨rfl, by decide, by decide, by decide, rfl, rfl⟩ ?_
        exact tf_ret ftX11_pauses hR rfl ⟨by decide, by decide⟩ rfl rfl rfl
      · rw [if_neg (by rintro (h | h); exact e1 h; exact e2 h)]
        by_cases e3 : 999 < l
        · rw [if_pos (Or.inl e3)]
          refine ⟨tf_rfS G S o 6, tf_Fn_of (own := RX11) false ⟨by decide, rfl, by decide⟩ (Nat.le_of_ble_eq_true rfl) trivial (fun x hx hR => ?_), tf_ms_ref ho hd hM 6, tf_fm_0⟩
          show tf_K x 0 0 G S 0 [some (.ref o), some (.int (nI b1)), some (.int l), some (.int r), none, none, none, none] []
          refine tf_go hx ftX11_pauses 1 [] 1 [some (.ref o), some (.int (nI b1)), some (.int l), some (.int r), none, none, none, none] [.int (nI b1)] S rfl ⟨by decide, by decide, rfl⟩ trivial ?_
          refine tf_cS hx ftX11_pauses (nx := 4) (As := [.int (nI b1)]) (rest := []) (st2 := [.int (if ¬ (nI b1) < 0 ∧ ¬ 4 ≤ (nI b1) then 1 else 0)]) (m_isBoard (nI b1)) rfl lX11_40 rfl ⟨rfl, by decide, by decide, by decide, rfl, rfl⟩ ?_
          rw [if_pos c0]
          refine tf_go hx ftX11_pauses 1 [true] 13 [some (.ref o), some (.int (nI b1)), some (.int l), some (.int r), none, none, none, none] [] S rfl ⟨by decide, by decide, rfl⟩ ⟨trivial, (by decide)⟩ ?_
          refine tf_go hx ftX11_pauses 2 [] 15 [some (.ref o), some (.int (nI b1)), some (.int l), some (.int r), none, none, none, none] [.int 1, .int l] S rfl ⟨by decide, by decide, rfl⟩ trivial ?_
          refine tf_go hx ftX11_pauses 1 [false] 18 [some (.ref o), some (.int (nI b1)), some (.int l), some (.int r), none, none, none, none] [] S rfl ⟨by decide, by decide, rfl⟩ ⟨trivial, e1⟩ ?_
          refine tf_go hx ftX11_pauses 1 [] 19 [some (.ref o), some (.int (nI b1)), some (.int l), some (.int r), none, none, none, none] [.int r] S rfl ⟨by decide, by decide, rfl⟩ trivial ?_
          refine tf_go hx ftX11_pauses 1 [true] 29 [some (.ref o), some (.int (nI b1)), some (.int l), some (.int r), none, none, none, none] [] S rfl ⟨by decide, by decide, rfl⟩ ⟨trivial, (Int32.not_lt.mp e2)⟩ ?_
          refine tf_go hx ftX11_pauses 2 [] 33 [some (.ref o), some (.int (nI b1)), some (.int l), some (.int r), none, none, none, none] [.int 999, .int l] S rfl ⟨by decide, by decide, rfl⟩ trivial ?_
          refine tf_go hx ftX11_pauses 3 [true] 46 [some (.ref o), some (.int (nI b1)), some (.int l), some (.int r), none, none, none, none] [.int (-6), .ref o] S rfl ⟨by decide, by decide, rfl⟩ ⟨trivial, e3⟩ ?_
          refine tf_cV hx ftX11_pauses (nx := 49) (As := [.int (-6)]) (rest := []) (st2 := [.int (-6)]) (m_ref6 ho) rfl lX11_26 (by first | assumption | rfl | decide) rfl ⟨rfl, by decide, by decide, by decide, rfl, rfl⟩ ?_
          exact tf_ret ftX11_pauses hR rfl ⟨by decide, by decide⟩ rfl rfl rfl
        · by_cases e4 : 999 < r
          · rw [if_pos (Or.inr e4)]
            refine ⟨tf_rfS G S o 6, tf_Fn_of (own := RX11) false ⟨by decide, rfl, by decide⟩ (Nat.le_of_ble_eq_true rfl) trivial (fun x hx hR => ?_), tf_ms_ref ho hd hM 6, tf_fm_0⟩
            show tf_K x 0 0 G S 0 [some (.ref o), some (.int (nI b1)), some (.int l), some (.int r), none, none, none, none] []
            refine tf_go hx ftX11_pauses 1 [] 1 [some (.ref o), some (.int (nI b1)), some (.int l), some (.int r), none, none, none, none] [.int (nI b1)] S rfl ⟨by decide, by decide, rfl⟩ trivial ?_
            refine tf_cS hx ftX11_pauses (nx := 4) (As := [.int (nI b1)]) (rest := []) (st2 := [.int (if ¬ (nI b1) < 0 ∧ ¬ 4 ≤ (nI b1) then 1 else 0)]) (m_isBoard (nI b1)) rfl lX11_40 rfl ⟨rfl, by decide, by decide, by decide, rfl, rfl⟩ ?_
            rw [if_pos c0]
            refine tf_go hx ftX11_pauses 1 [true] 13 [some (.ref o), some (.int (nI b1)), some (.int l), some (.int r), none, none, none, none] [] S rfl ⟨by decide, by decide, rfl⟩ ⟨trivial, (by decide)⟩ ?_
            refine tf_go hx ftX11_pauses 2 [] 15 [some (.ref o), some (.int (nI b1)), some (.int l), some (.int r), none, none, none, none] [.int 1, .int l] S rfl ⟨by decide, by decide, rfl⟩ trivial ?_
            refine tf_go hx ftX11_pauses 1 [false] 18 [some (.ref o), some (.int (nI b1)), some (.int l), some (.int r), none, none, none, none] [] S rfl ⟨by decide, by decide, rfl⟩ ⟨trivial, e1⟩ ?_
            refine tf_go hx ftX11_pauses 1 [] 19 [some (.ref o), some (.int (nI b1)), some (.int l), some (.int r), none, none, none, none] [.int r] S rfl ⟨by decide, by decide, rfl⟩ trivial ?_
            refine tf_go hx ftX11_pauses 1 [true] 29 [some (.ref o), some (.int (nI b1)), some (.int l), some (.int r), none, none, none, none] [] S rfl ⟨by decide, by decide, rfl⟩ ⟨trivial, (Int32.not_lt.mp e2)⟩ ?_
            refine tf_go hx ftX11_pauses 2 [] 33 [some (.ref o), some (.int (nI b1)), some (.int l), some (.int r), none, none, none, none] [.int 999, .int l] S rfl ⟨by decide, by decide, rfl⟩ trivial ?_
            refine tf_go hx ftX11_pauses 1 [false] 36 [some (.ref o), some (.int (nI b1)), some (.int l), some (.int r), none, none, none, none] [] S rfl ⟨by decide, by decide, rfl⟩ ⟨trivial, e3⟩ ?_
            refine tf_go hx ftX11_pauses 2 [] 40 [some (.ref o), some (.int (nI b1)), some (.int l), some (.int r), none, none, none, none] [.int 999, .int r] S rfl ⟨by decide, by decide, rfl⟩ trivial ?_
            refine tf_go hx ftX11_pauses 3 [false] 46 [some (.ref o), some (.int (nI b1)), some (.int l), some (.int r), none, none, none, none] [.int (-6), .ref o] S rfl ⟨by decide, by decide, rfl⟩ ⟨trivial, (Int32.not_le.mpr e4)⟩ ?_
            refine tf_cV hx ftX11_pauses (nx := 49) (As := [.int (-6)]) (rest := []) (st2 := [.int (-6)]) (m_ref6 ho) rfl lX11_26 (by first | assumption | rfl | decide) rfl ⟨rfl, by decide, by decide, by decide, rfl, rfl⟩ ?_
            exact tf_ret ftX11_pauses hR rfl ⟨by decide, by decide⟩ rfl rfl rfl
          · rw [if_neg (by rintro (h | h); exact e3 h; exact e4 h)]
            obtain ⟨l1, l1_le, l1_eq⟩ := nI_of2 (M := 999) (n := 999) (x := l) (by decide) (fun h => e1 (Int32.lt_trans h (by decide))) (Int32.not_lt.mp e3)
            obtain ⟨r1, r1_le, r1_eq⟩ := nI_of2 (M := 999) (n := 999) (x := r) (by decide) e2 (Int32.not_lt.mp e4)
            subst l1_eq
            subst r1_eq
            rw [tf_cl_nI (show l1 < 2147483648 by omega), tf_cl_nI (show r1 < 2147483648 by omega)]
            refine ⟨S, tf_Fn_of (own := RX11) false ⟨by decide, rfl, by decide⟩ (Nat.le_of_ble_eq_true rfl) trivial (fun x hx hR => ?_), hM, tf_fm_id⟩
            show tf_K x 0 0 G S 0 [some (.ref o), some (.int (nI b1)), some (.int (nI l1)), some (.int (nI r1)), none, none, none, none] []
            refine tf_go hx ftX11_pauses 1 [] 1 [some (.ref o), some (.int (nI b1)), some (.int (nI l1)), some (.int (nI r1)), none, none, none, none] [.int (nI b1)] S rfl ⟨by decide, by decide, rfl⟩ trivial ?_
            refine tf_cS hx ftX11_pauses (nx := 4) (As := [.int (nI b1)]) (rest := []) (st2 := [.int (if ¬ (nI b1) < 0 ∧ ¬ 4 ≤ (nI b1) then 1 else 0)]) (m_isBoard (nI b1)) rfl lX11_40 rfl ⟨rfl, by decide, by decide, by decide, rfl, rfl⟩ ?_
            rw [if_pos c0]
            refine tf_go hx ftX11_pauses 1 [true] 13 [some (.ref o), some (.int (nI b1)), some (.int (nI l1)), some (.int (nI r1)), none, none, none, none] [] S rfl ⟨by decide, by decide, rfl⟩ ⟨trivial, (by decide)⟩ ?_
            refine tf_go hx ftX11_pauses 2 [] 15 [some (.ref o), some (.int (nI b1)), some (.int (nI l1)), some (.int (nI r1)), none, none, none, none] [.int 1, .int (nI l1)] S rfl ⟨by decide, by decide, rfl⟩ trivial ?_
            refine tf_go hx ftX11_pauses 1 [false] 18 [some (.ref o), some (.int (nI b1)), some (.int (nI l1)), some (.int (nI r1)), none, none, none, none] [] S rfl ⟨by decide, by decide, rfl⟩ ⟨trivial, e1⟩ ?_
            refine tf_go hx ftX11_pauses 1 [] 19 [some (.ref o), some (.int (nI b1)), some (.int (nI l1)), some (.int (nI r1)), none, none, none, none] [.int (nI r1)] S rfl ⟨by decide, by decide, rfl⟩ trivial ?_
            refine tf_go hx ftX11_pauses 1 [true] 29 [some (.ref o), some (.int (nI b1)), some (.int (nI l1)), some (.int (nI r1)), none, none, none, none] [] S rfl ⟨by decide, by decide, rfl⟩ ⟨trivial, (Int32.not_lt.mp e2)⟩ ?_
            refine tf_go hx ftX11_pauses 2 [] 33 [some (.ref o), some (.int (nI b1)), some (.int (nI l1)), some (.int (nI r1)), none, none, none, none] [.int 999, .int (nI l1)] S rfl ⟨by decide, by decide, rfl⟩ trivial ?_
            refine tf_go hx ftX11_pauses 1 [false] 36 [some (.ref o), some (.int (nI b1)), some (.int (nI l1)), some (.int (nI r1)), none, none, none, none] [] S rfl ⟨by decide, by decide, rfl⟩ ⟨trivial, e3⟩ ?_
            refine tf_go hx ftX11_pauses 2 [] 40 [some (.ref o), some (.int (nI b1)), some (.int (nI l1)), some (.int (nI r1)), none, none, none, none] [.int 999, .int (nI r1)] S rfl ⟨by decide, by decide, rfl⟩ trivial ?_
            refine tf_go hx ftX11_pauses 7 [true] 59 [some (.ref o), some (.int (nI b1)), some (.int (nI l1)), some (.int (nI r1)), some (.int 0), some (.int 0), some (.int 0), none] [] S rfl ⟨by decide, by decide, rfl⟩ ⟨trivial, (Int32.not_lt.mp e4)⟩ ?_
            refine tf_fgt [some (.ref o), some (.int (nI b1)), some (.int (nI l1)), some (.int (nI r1)), some (.int 0), some (.int 0), some (.int 0), none] (by simp [tf_lss]) ?_
            have loop : ∀ (m k : Nat) (n : Nat) (y : Nat), 41 = k + m → (tf_pz A.1 b1 l1 r1 m k y n = tf_pz A.1 b1 l1 r1 41 0 0 0) → (y ≤ 3 * k) → (n + y ≤ 3 * k) → tf_K x 0 0 G S 59 [some (.ref o), some (.int (nI b1)), some (.int (nI l1)), some (.int (nI r1)), some (.int (nI y)), some (.int (nI n)), some (.int (nI k)), none] [] := by
              intro m
              induction m with
              | zero =>
                intro k n y hk he hy hn
                refine tf_go hx ftX11_pauses 5 [] 69 [some (.ref o), some (.int (nI b1)), some (.int (nI l1)), some (.int (nI r1)), some (.int (nI y)), some (.int (nI n)), some (.int (nI k)), none] [.int (S (tf_rf G o 1) (Int32.toNatClampNeg 364)), .int (nI k)] S rfl ⟨by decide, by decide, rfl⟩ ⟨⟨trivial, ⟨by first | assumption | rfl | decide | omega, by first | assumption | rfl | decide | omega⟩⟩, ⟨Or.inl (by first | assumption | rfl | decide | omega), by first | assumption | exact tf_in (n := 364) (rfl : (364 : Int32) = nI 364) (by first | assumption | rfl) (by omega) (by decide)⟩⟩ ?_
                rw [show (S (tf_rf G o 1) (Int32.toNatClampNeg 364)) = nI (A.1 364) from (tf_rd hs (rfl : (364 : Int32) = nI 364) (by omega))]
                refine tf_go hx ftX11_pauses 2 [true] 143 [some (.ref o), some (.int (nI b1)), some (.int (nI l1)), some (.int (nI r1)), some (.int (nI y)), some (.int (nI n)), some (.int (nI k)), none] [.int (nI n)] S rfl ⟨by decide, by decide, rfl⟩ ⟨trivial, (tf_leT (a := (A.1 364)) (b := k) rfl rfl (by have := hb 364; omega) (by have := hb 364; omega) (by have := hb 364; omega))⟩ ?_
                exact tf_ret ftX11_pauses hR rfl ⟨by decide, by decide⟩ rfl rfl (by rw [← he]; show _ = [Value.int (tf_on 100000 n)]; rw [tf_on_y (by omega)])
              | succ m ih =>
                intro k n y hk he hy hn
                rw [tf_pz_s] at he
                refine tf_go hx ftX11_pauses 5 [] 69 [some (.ref o), some (.int (nI b1)), some (.int (nI l1)), some (.int (nI r1)), some (.int (nI y)), some (.int (nI n)), some (.int (nI k)), none] [.int (S (tf_rf G o 1) (Int32.toNatClampNeg 364)), .int (nI k)] S rfl ⟨by decide, by decide, rfl⟩ ⟨⟨trivial, ⟨by first | assumption | rfl | decide | omega, by first | assumption | rfl | decide | omega⟩⟩, ⟨Or.inl (by first | assumption | rfl | decide | omega), by first | assumption | exact tf_in (n := 364) (rfl : (364 : Int32) = nI 364) (by first | assumption | rfl) (by omega) (by decide)⟩⟩ ?_
                rw [show (S (tf_rf G o 1) (Int32.toNatClampNeg 364)) = nI (A.1 364) from (tf_rd hs (rfl : (364 : Int32) = nI 364) (by omega))]
                by_cases d0 : k < A.1 364
                · rw [if_pos d0] at he
                  have ah := tf_ah_le A.1 b1 k
                  refine tf_go hx ftX11_pauses 1 [false] 72 [some (.ref o), some (.int (nI b1)), some (.int (nI l1)), some (.int (nI r1)), some (.int (nI y)), some (.int (nI n)), some (.int (nI k)), none] [] S rfl ⟨by decide, by decide, rfl⟩ ⟨trivial, (tf_leF (a := (A.1 364)) (b := k) rfl rfl (by have := hb 364; omega) (by have := hb 364; omega) (by have := hb 364; omega))⟩ ?_
                  refine tf_go hx ftX11_pauses 3 [] 76 [some (.ref o), some (.int (nI b1)), some (.int (nI l1)), some (.int (nI r1)), some (.int (nI y)), some (.int (nI n)), some (.int (nI k)), none] [.int (nI k), .int (nI b1), .ref o] S rfl ⟨by decide, by decide, rfl⟩ trivial ?_
                  refine tf_cV hx ftX11_pauses (nx := 79) (As := [.int (nI b1), .int (nI k)]) (rest := []) (st2 := [.int (nI (tf_ah A.1 b1 k))]) (m_acheAt b1 k ho hf hg b1_lt d0) rfl lX11_129 (by first | assumption | rfl | decide) rfl ⟨rfl, by decide, by decide, by decide, rfl, rfl⟩ ?_
                  generalize hw : tf_ah A.1 b1 k = w at *
                  refine tf_go hx ftX11_pauses 3 [] 84 [some (.ref o), some (.int (nI b1)), some (.int (nI l1)), some (.int (nI r1)), some (.int (nI y)), some (.int (nI n)), some (.int (nI k)), some (.int (nI w))] [.int (nI l1), .int (nI w)] S rfl ⟨by decide, by decide, rfl⟩ trivial ?_
                  by_cases d1 : l1 < w
                  · rw [if_pos d1] at he
                    refine tf_go hx ftX11_pauses 2 [false] 89 [some (.ref o), some (.int (nI b1)), some (.int (nI l1)), some (.int (nI r1)), some (.int (nI y)), some (.int (nI n)), some (.int (nI k)), some (.int (nI w))] [.int (-9)] S rfl ⟨by decide, by decide, rfl⟩ ⟨trivial, (tf_leF (a := w) (b := l1) rfl rfl (by omega) (by omega) (by omega))⟩ ?_
                    exact tf_ret ftX11_pauses hR rfl ⟨by decide, by decide⟩ rfl rfl (by rw [← he]; rfl)
                  · rw [if_neg d1] at he
                    refine tf_go hx ftX11_pauses 1 [true] 90 [some (.ref o), some (.int (nI b1)), some (.int (nI l1)), some (.int (nI r1)), some (.int (nI y)), some (.int (nI n)), some (.int (nI k)), some (.int (nI w))] [] S rfl ⟨by decide, by decide, rfl⟩ ⟨trivial, (tf_leT (a := w) (b := l1) rfl rfl (by omega) (by omega) (by omega))⟩ ?_
                    by_cases d2 : l1 < y + w ∧ r1 = 0
                    · rw [if_pos d2] at he
                      obtain ⟨d3, d4⟩ := d2
                      subst d4
                      refine tf_go hx ftX11_pauses 4 [] 96 [some (.ref o), some (.int (nI b1)), some (.int (nI l1)), some (.int (nI 0)), some (.int (nI y)), some (.int (nI n)), some (.int (nI k)), some (.int (nI w))] [.int (nI l1), .int ((nI y) + (nI w))] S rfl ⟨by decide, by decide, rfl⟩ trivial ?_
                      rw [show ((nI y) + (nI w)) = nI (y + w) from (tf_add (a := y) (b := w) rfl rfl)]
                      refine tf_go hx ftX11_pauses 1 [false] 99 [some (.ref o), some (.int (nI b1)), some (.int (nI l1)), some (.int (nI 0)), some (.int (nI y)), some (.int (nI n)), some (.int (nI k)), some (.int (nI w))] [] S rfl ⟨by decide, by decide, rfl⟩ ⟨trivial, (tf_leF (a := (y + w)) (b := l1) rfl rfl (by omega) (by omega) (by omega))⟩ ?_
                      refine tf_go hx ftX11_pauses 1 [] 100 [some (.ref o), some (.int (nI b1)), some (.int (nI l1)), some (.int (nI 0)), some (.int (nI y)), some (.int (nI n)), some (.int (nI k)), some (.int (nI w))] [.int (nI 0)] S rfl ⟨by decide, by decide, rfl⟩ trivial ?_
                      refine tf_go hx ftX11_pauses 2 [false] 105 [some (.ref o), some (.int (nI b1)), some (.int (nI l1)), some (.int (nI 0)), some (.int (nI y)), some (.int (nI n)), some (.int (nI k)), some (.int (nI w))] [.int (-9)] S rfl ⟨by decide, by decide, rfl⟩ ⟨trivial, (tf_neF (a := 0) (b := 0) rfl (rfl : (0 : Int32) = nI 0) (by omega))⟩ ?_
                      exact tf_ret ftX11_pauses hR rfl ⟨by decide, by decide⟩ rfl rfl (by rw [← he]; rfl)
                    · rw [if_neg d2] at he
                      have inner : ∀ (i t c : Nat), t < i → tf_pi w l1 r1 i t c = tf_pi w l1 r1 (y + 1) y n → (l1 < t + w → r1 ≠ 0) → t ≤ y → c + t ≤ n + y → tf_K x 0 0 G S 90 [some (.ref o), some (.int (nI b1)), some (.int (nI l1)), some (.int (nI r1)), some (.int (nI t)), some (.int (nI c)), some (.int (nI k)), some (.int (nI w))] [] := by
                        intro i
                        induction i with
                        | zero =>
                          intro t c ht
                          omega
                        | succ i ihi =>
                          intro t c ht hi hr hty hc
                          rw [tf_pi_s] at hi
                          refine tf_go hx ftX11_pauses 4 [] 96 [some (.ref o), some (.int (nI b1)), some (.int (nI l1)), some (.int (nI r1)), some (.int (nI t)), some (.int (nI c)), some (.int (nI k)), some (.int (nI w))] [.int (nI l1), .int ((nI t) + (nI w))] S rfl ⟨by decide, by decide, rfl⟩ trivial ?_
                          rw [show ((nI t) + (nI w)) = nI (t + w) from (tf_add (a := t) (b := w) rfl rfl)]
                          by_cases d3 : l1 < t + w
                          · rw [if_pos d3] at hi
                            have r0 := hr d3
                            refine tf_go hx ftX11_pauses 1 [false] 99 [some (.ref o), some (.int (nI b1)), some (.int (nI l1)), some (.int (nI r1)), some (.int (nI t)), some (.int (nI c)), some (.int (nI k)), some (.int (nI w))] [] S rfl ⟨by decide, by decide, rfl⟩ ⟨trivial, (tf_leF (a := (t + w)) (b := l1) rfl rfl (by omega) (by omega) (by omega))⟩ ?_
                            refine tf_go hx ftX11_pauses 1 [] 100 [some (.ref o), some (.int (nI b1)), some (.int (nI l1)), some (.int (nI r1)), some (.int (nI t)), some (.int (nI c)), some (.int (nI k)), some (.int (nI w))] [.int (nI r1)] S rfl ⟨by decide, by decide, rfl⟩ trivial ?_
                            refine tf_go hx ftX11_pauses 1 [true] 106 [some (.ref o), some (.int (nI b1)), some (.int (nI l1)), some (.int (nI r1)), some (.int (nI t)), some (.int (nI c)), some (.int (nI k)), some (.int (nI w))] [] S rfl ⟨by decide, by decide, rfl⟩ ⟨trivial, (tf_eqF (a := r1) (b := 0) rfl (rfl : (0 : Int32) = nI 0) (by omega) (by omega) (by omega))⟩ ?_
                            refine tf_go hx ftX11_pauses 2 [] 109 [some (.ref o), some (.int (nI b1)), some (.int (nI l1)), some (.int (nI r1)), some (.int (nI t)), some (.int (nI c)), some (.int (nI k)), some (.int (nI w))] [.int (nI r1), .int (nI t)] S rfl ⟨by decide, by decide, rfl⟩ trivial ?_
                            by_cases d4 : r1 < t
                            · refine tf_go hx ftX11_pauses 8 [false] 90 [some (.ref o), some (.int (nI b1)), some (.int (nI l1)), some (.int (nI r1)), some (.int ((nI t) - (nI r1))), some (.int ((nI c) + 1)), some (.int (nI k)), some (.int (nI w))] [] S rfl ⟨by decide, by decide, rfl⟩ ⟨trivial, (tf_leF (a := t) (b := r1) rfl rfl (by omega) (by omega) (by omega))⟩ ?_
                              rw [show ((nI t) - (nI r1)) = nI (t - r1) from (tf_sub (a := t) (b := r1) rfl rfl (by omega))]
                              rw [show ((nI c) + 1) = nI (c + 1) from (tf_add (a := c) (b := 1) rfl (rfl : (1 : Int32) = nI 1))]
                              exact ihi (t - r1) (c + 1) (by omega) hi (fun _ => r0) (by omega) (by omega)
                            · refine tf_go hx ftX11_pauses 5 [true] 90 [some (.ref o), some (.int (nI b1)), some (.int (nI l1)), some (.int (nI r1)), some (.int 0), some (.int ((nI c) + 1)), some (.int (nI k)), some (.int (nI w))] [] S rfl ⟨by decide, by decide, rfl⟩ ⟨trivial, (tf_leT (a := t) (b := r1) rfl rfl (by omega) (by omega) (by omega))⟩ ?_
                              rw [show ((nI c) + 1) = nI (c + 1) from (tf_add (a := c) (b := 1) rfl (rfl : (1 : Int32) = nI 1))]
                              rw [show t - r1 = 0 by omega] at hi
                              exact ihi 0 (c + 1) (by omega) hi (fun _ => r0) (by omega) (by omega)
                          · rw [if_neg d3] at hi
                            refine tf_go hx ftX11_pauses 7 [true] 59 [some (.ref o), some (.int (nI b1)), some (.int (nI l1)), some (.int (nI r1)), some (.int ((nI t) + (nI w))), some (.int (nI c)), some (.int ((nI k) + 1)), some (.int (nI w))] [] S rfl ⟨by decide, by decide, rfl⟩ ⟨trivial, (tf_leT (a := (t + w)) (b := l1) rfl rfl (by omega) (by omega) (by omega))⟩ ?_
                            rw [show ((nI t) + (nI w)) = nI (t + w) from (tf_add (a := t) (b := w) rfl rfl)]
                            rw [show ((nI k) + 1) = nI (k + 1) from (tf_add (a := k) (b := 1) rfl (rfl : (1 : Int32) = nI 1))]
                            refine tf_fgt [some (.ref o), some (.int (nI b1)), some (.int (nI l1)), some (.int (nI r1)), some (.int (nI (t + w))), some (.int (nI c)), some (.int (nI (k + 1))), none] (by simp [tf_lss]) ?_
                            exact ih (k + 1) c (t + w) (by omega) (by rw [← hi] at he; exact he) (by omega) (by omega)
                      exact inner (y + 1) y n (by omega) rfl (fun h h2 => d2 ⟨h, h2⟩) (Nat.le_refl _) (Nat.le_refl _)
                · rw [if_neg d0] at he
                  refine tf_go hx ftX11_pauses 2 [true] 143 [some (.ref o), some (.int (nI b1)), some (.int (nI l1)), some (.int (nI r1)), some (.int (nI y)), some (.int (nI n)), some (.int (nI k)), none] [.int (nI n)] S rfl ⟨by decide, by decide, rfl⟩ ⟨trivial, (tf_leT (a := (A.1 364)) (b := k) rfl rfl (by have := hb 364; omega) (by have := hb 364; omega) (by have := hb 364; omega))⟩ ?_
                  exact tf_ret ftX11_pauses hR rfl ⟨by decide, by decide⟩ rfl rfl (by rw [← he]; show _ = [Value.int (tf_on 100000 n)]; rw [tf_on_y (by omega)])
            exact loop 41 0 0 0 (by omega) rfl (by omega) (by omega)
  · rw [if_neg (fun h => c0 h)]
    refine ⟨tf_rfS G S o 1, tf_Fn_of (own := RX11) false ⟨by decide, rfl, by decide⟩ (Nat.le_of_ble_eq_true rfl) trivial (fun x hx hR => ?_), tf_ms_ref ho hd hM 1, tf_fm_0⟩
    show tf_K x 0 0 G S 0 [some (.ref o), some (.int b), some (.int l), some (.int r), none, none, none, none] []
    refine tf_go hx ftX11_pauses 1 [] 1 [some (.ref o), some (.int b), some (.int l), some (.int r), none, none, none, none] [.int b] S rfl ⟨by decide, by decide, rfl⟩ trivial ?_
    refine tf_cS hx ftX11_pauses (nx := 4) (As := [.int b]) (rest := []) (st2 := [.int (if ¬ b < 0 ∧ ¬ 4 ≤ b then 1 else 0)]) (m_isBoard b) rfl lX11_40 rfl ⟨rfl, by decide, by decide, by decide, rfl, rfl⟩ ?_
    rw [if_neg c0]
    refine tf_go hx ftX11_pauses 1 [false] 7 [some (.ref o), some (.int b), some (.int l), some (.int r), none, none, none, none] [] S rfl ⟨by decide, by decide, rfl⟩ ⟨trivial, (by decide)⟩ ?_
    refine tf_go hx ftX11_pauses 2 [] 9 [some (.ref o), some (.int b), some (.int l), some (.int r), none, none, none, none] [.int (-1), .ref o] S rfl ⟨by decide, by decide, rfl⟩ trivial ?_
    refine tf_cV hx ftX11_pauses (nx := 12) (As := [.int (-1)]) (rest := []) (st2 := [.int (-1)]) (m_ref1 ho) rfl lX11_26 (by first | assumption | rfl | decide) rfl ⟨rfl, by decide, by decide, by decide, rfl, rfl⟩ ?_
    exact tf_ret ftX11_pauses hR rfl ⟨by decide, by decide⟩ rfl rfl rfl

theorem tf_smr (t k V : Nat) : ((nI t - nI (100 * k)) + (nI V - 100)) = nI (t + V) - nI (100 * (k + 1)) := by
  rw [show nI (t + V) = nI t + nI V from (nI_add t V).symm, show nI (100 * (k + 1)) = nI (100 * k) + 100 from by rw [Nat.mul_add, Nat.mul_one, ← nI_add]; rfl]
  grind

set_option maxHeartbeats 2000000 in
theorem p_summer {G : tf_G} {S : tf_Sg} {o : Nat} {A : tf_A} (st ep ga : Int32) (ho : tf_mo G o) (hd : tf_md G o) (hA : tf_okA A) (hM : tf_ms G S o A)  : tf_pm mX11_summer 2 G S o [.ref o, .int st, .int ep, .int ga] (s_summer A st ep ga) := by
  obtain ⟨h1, ⟨r0, t0, n0⟩, ⟨r1, t1, n1⟩, ⟨r2, t2, n2⟩, ⟨r4, t4, n4⟩⟩ := id ho
  obtain ⟨hg, hb, hA3, hA4, hA5, hA6⟩ := id hA
  have hs := hM.1
  have hf : tf_sf G S o A.1 := ⟨hM.1, hb⟩
  obtain ⟨⟨g1, g2, g3, g4⟩, g5, g6, g7, g8, g9, g10, g11⟩ := id hg
  unfold s_summer
  by_cases e1 : st < 0
  · rw [if_pos (Or.inl e1)]
    refine ⟨tf_rfS G S o 4, tf_Fn_of (own := RX11) false ⟨by decide, rfl, by decide⟩ (Nat.le_of_ble_eq_true rfl) trivial (fun x hx hR => ?_), tf_ms_ref ho hd hM 4, tf_fm_0⟩
    show tf_K x 0 0 G S 0 [some (.ref o), some (.int st), some (.int ep), some (.int ga), none, none, none] []
    refine tf_go hx ftX11_summer 1 [] 1 [some (.ref o), some (.int st), some (.int ep), some (.int ga), none, none, none] [.int st] S rfl ⟨by decide, by decide, rfl⟩ trivial ?_
    refine tf_go hx ftX11_summer 3 [true] 17 [some (.ref o), some (.int st), some (.int ep), some (.int ga), none, none, none] [.int (-4), .ref o] S rfl ⟨by decide, by decide, rfl⟩ ⟨trivial, e1⟩ ?_
    refine tf_cV hx ftX11_summer (nx := 20) (As := [.int (-4)]) (rest := []) (st2 := [.int (-4)]) (m_ref4 ho) rfl lX11_26 (by first | assumption | rfl | decide) rfl ⟨rfl, by decide, by decide, by decide, rfl, rfl⟩ ?_
    exact tf_ret ftX11_summer hR rfl ⟨by decide, by decide⟩ rfl rfl rfl
  · by_cases e2 : ep < 1
    · rw [if_pos (Or.inr (Or.inl e2))]
      refine ⟨tf_rfS G S o 4, tf_Fn_of (own := RX11) false ⟨by decide, rfl, by decide⟩ (Nat.le_of_ble_eq_true rfl) trivial (fun x hx hR => ?_), tf_ms_ref ho hd hM 4, tf_fm_0⟩
      show tf_K x 0 0 G S 0 [some (.ref o), some (.int st), some (.int ep), some (.int ga), none, none, none] []
      refine tf_go hx ftX11_summer 1 [] 1 [some (.ref o), some (.int st), some (.int ep), some (.int ga), none, none, none] [.int st] S rfl ⟨by decide, by decide, rfl⟩ trivial ?_
      refine tf_go hx ftX11_summer 1 [false] 4 [some (.ref o), some (.int st), some (.int ep), some (.int ga), none, none, none] [] S rfl ⟨by decide, by decide, rfl⟩ ⟨trivial, e1⟩ ?_
      refine tf_go hx ftX11_summer 2 [] 6 [some (.ref o), some (.int st), some (.int ep), some (.int ga), none, none, none] [.int 1, .int ep] S rfl ⟨by decide, by decide, rfl⟩ trivial ?_
      refine tf_go hx ftX11_summer 3 [true] 17 [some (.ref o), some (.int st), some (.int ep), some (.int ga), none, none, none] [.int (-4), .ref o] S rfl ⟨by decide, by decide, rfl⟩ ⟨trivial, e2⟩ ?_
      refine tf_cV hx ftX11_summer (nx := 20) (As := [.int (-4)]) (rest := []) (st2 := [.int (-4)]) (m_ref4 ho) rfl lX11_26 (by first | assumption | rfl | decide) rfl ⟨rfl, by decide, by decide, by decide, rfl, rfl⟩ ?_
      exact tf_ret ftX11_summer hR rfl ⟨by decide, by decide⟩ rfl rfl rfl
    · by_cases e3 : ga < 1
      · rw [if_pos (Or.inr (Or.inr e3))]
        refine ⟨tf_rfS G S o 4, tf_Fn_of (own := RX11) false ⟨by decide, rfl, by decide⟩ (Nat.le_of_ble_eq_true rfl) trivial (fun x hx hR => ?_), tf_ms_ref ho hd hM 4, tf_fm_0⟩
        show tf_K x 0 0 G S 0 [some (.ref o), some (.int st), some (.int ep), some (.int ga), none, none, none] []
        refine tf_go hx ftX11_summer 1 [] 1 [some (.ref o), some (.int st), some (.int ep), some (.int ga), none, none, none] [.int st] S rfl ⟨by decide, by decide, rfl⟩ trivial ?_
        refine tf_go hx ftX11_summer 1 [false] 4 [some (.ref o), some (.int st), some (.int ep), some (.int ga), none, none, none] [] S rfl ⟨by decide, by decide, rfl⟩ ⟨trivial, e1⟩ ?_
        refine tf_go hx ftX11_summer 2 [] 6 [some (.ref o), some (.int st), some (.int ep), some (.int ga), none, none, none] [.int 1, .int ep] S rfl ⟨by decide, by decide, rfl⟩ trivial ?_
        refine tf_go hx ftX11_summer 1 [false] 9 [some (.ref o), some (.int st), some (.int ep), some (.int ga), none, none, none] [] S rfl ⟨by decide, by decide, rfl⟩ ⟨trivial, e2⟩ ?_
        refine tf_go hx ftX11_summer 2 [] 11 [some (.ref o), some (.int st), some (.int ep), some (.int ga), none, none, none] [.int 1, .int ga] S rfl ⟨by decide, by decide, rfl⟩ trivial ?_
        refine tf_go hx ftX11_summer 3 [false] 17 [some (.ref o), some (.int st), some (.int ep), some (.int ga), none, none, none] [.int (-4), .ref o] S rfl ⟨by decide, by decide, rfl⟩ ⟨trivial, (Int32.not_le.mpr e3)⟩ ?_
        refine tf_cV hx ftX11_summer (nx := 20) (As := [.int (-4)]) (rest := []) (st2 := [.int (-4)]) (m_ref4 ho) rfl lX11_26 (by first | assumption | rfl | decide) rfl ⟨rfl, by decide, by decide, by decide, rfl, rfl⟩ ?_
        exact tf_ret ftX11_summer hR rfl ⟨by decide, by decide⟩ rfl rfl rfl
      · rw [if_neg (by rintro (h | h | h); exact e1 h; exact e2 h; exact e3 h)]
        by_cases f1 : 99 < st
        · rw [if_pos (Or.inl f1)]
          refine ⟨tf_rfS G S o 6, tf_Fn_of (own := RX11) false ⟨by decide, rfl, by decide⟩ (Nat.le_of_ble_eq_true rfl) trivial (fun x hx hR => ?_), tf_ms_ref ho hd hM 6, tf_fm_0⟩
          show tf_K x 0 0 G S 0 [some (.ref o), some (.int st), some (.int ep), some (.int ga), none, none, none] []
          refine tf_go hx ftX11_summer 1 [] 1 [some (.ref o), some (.int st), some (.int ep), some (.int ga), none, none, none] [.int st] S rfl ⟨by decide, by decide, rfl⟩ trivial ?_
          refine tf_go hx ftX11_summer 1 [false] 4 [some (.ref o), some (.int st), some (.int ep), some (.int ga), none, none, none] [] S rfl ⟨by decide, by decide, rfl⟩ ⟨trivial, e1⟩ ?_
          refine tf_go hx ftX11_summer 2 [] 6 [some (.ref o), some (.int st), some (.int ep), some (.int ga), none, none, none] [.int 1, .int ep] S rfl ⟨by decide, by decide, rfl⟩ trivial ?_
          refine tf_go hx ftX11_summer 1 [false] 9 [some (.ref o), some (.int st), some (.int ep), some (.int ga), none, none, none] [] S rfl ⟨by decide, by decide, rfl⟩ ⟨trivial, e2⟩ ?_
          refine tf_go hx ftX11_summer 2 [] 11 [some (.ref o), some (.int st), some (.int ep), some (.int ga), none, none, none] [.int 1, .int ga] S rfl ⟨by decide, by decide, rfl⟩ trivial ?_
          refine tf_go hx ftX11_summer 1 [true] 21 [some (.ref o), some (.int st), some (.int ep), some (.int ga), none, none, none] [] S rfl ⟨by decide, by decide, rfl⟩ ⟨trivial, (Int32.not_lt.mp e3)⟩ ?_
          refine tf_go hx ftX11_summer 2 [] 24 [some (.ref o), some (.int st), some (.int ep), some (.int ga), none, none, none] [.int 99, .int st] S rfl ⟨by decide, by decide, rfl⟩ trivial ?_
          refine tf_go hx ftX11_summer 3 [true] 42 [some (.ref o), some (.int st), some (.int ep), some (.int ga), none, none, none] [.int (-6), .ref o] S rfl ⟨by decide, by decide, rfl⟩ ⟨trivial, f1⟩ ?_
          refine tf_cV hx ftX11_summer (nx := 45) (As := [.int (-6)]) (rest := []) (st2 := [.int (-6)]) (m_ref6 ho) rfl lX11_26 (by first | assumption | rfl | decide) rfl ⟨rfl, by decide, by decide, by decide, rfl, rfl⟩ ?_
          exact tf_ret ftX11_summer hR rfl ⟨by decide, by decide⟩ rfl rfl rfl
        · by_cases f2 : 50 < ep
          · rw [if_pos (Or.inr (Or.inl f2))]
            refine ⟨tf_rfS G S o 6, tf_Fn_of (own := RX11) false ⟨by decide, rfl, by decide⟩ (Nat.le_of_ble_eq_true rfl) trivial (fun x hx hR => ?_), tf_ms_ref ho hd hM 6, tf_fm_0⟩
            show tf_K x 0 0 G S 0 [some (.ref o), some (.int st), some (.int ep), some (.int ga), none, none, none] []
            refine tf_go hx ftX11_summer 1 [] 1 [some (.ref o), some (.int st), some (.int ep), some (.int ga), none, none, none] [.int st] S rfl ⟨by decide, by decide, rfl⟩ trivial ?_
            refine tf_go hx ftX11_summer 1 [false] 4 [some (.ref o), some (.int st), some (.int ep), some (.int ga), none, none, none] [] S rfl ⟨by decide, by decide, rfl⟩ ⟨trivial, e1⟩ ?_
            refine tf_go hx ftX11_summer 2 [] 6 [some (.ref o), some (.int st), some (.int ep), some (.int ga), none, none, none] [.int 1, .int ep] S rfl ⟨by decide, by decide, rfl⟩ trivial ?_
            refine tf_go hx ftX11_summer 1 [false] 9 [some (.ref o), some (.int st), some (.int ep), some (.int ga), none, none, none] [] S rfl ⟨by decide, by decide, rfl⟩ ⟨trivial, e2⟩ ?_
            refine tf_go hx ftX11_summer 2 [] 11 [some (.ref o), some (.int st), some (.int ep), some (.int ga), none, none, none] [.int 1, .int ga] S rfl ⟨by decide, by decide, rfl⟩ trivial ?_
            refine tf_go hx ftX11_summer 1 [true] 21 [some (.ref o), some (.int st), some (.int ep), some (.int ga), none, none, none] [] S rfl ⟨by decide, by decide, rfl⟩ ⟨trivial, (Int32.not_lt.mp e3)⟩ ?_
            refine tf_go hx ftX11_summer 2 [] 24 [some (.ref o), some (.int st), some (.int ep), some (.int ga), none, none, none] [.int 99, .int st] S rfl ⟨by decide, by decide, rfl⟩ trivial ?_
            refine tf_go hx ftX11_summer 1 [false] 27 [some (.ref o), some (.int st), some (.int ep), some (.int ga), none, none, none] [] S rfl ⟨by decide, by decide, rfl⟩ ⟨trivial, f1⟩ ?_
            refine tf_go hx ftX11_summer 2 [] 30 [some (.ref o), some (.int st), some (.int ep), some (.int ga), none, none, none] [.int 50, .int ep] S rfl ⟨by decide, by decide, rfl⟩ trivial ?_
            refine tf_go hx ftX11_summer 3 [true] 42 [some (.ref o), some (.int st), some (.int ep), some (.int ga), none, none, none] [.int (-6), .ref o] S rfl ⟨by decide, by decide, rfl⟩ ⟨trivial, f2⟩ ?_
            refine tf_cV hx ftX11_summer (nx := 45) (As := [.int (-6)]) (rest := []) (st2 := [.int (-6)]) (m_ref6 ho) rfl lX11_26 (by first | assumption | rfl | decide) rfl ⟨rfl, by decide, by decide, by decide, rfl, rfl⟩ ?_
            exact tf_ret ftX11_summer hR rfl ⟨by decide, by decide⟩ rfl rfl rfl
          · by_cases f3 : 50 < ga
            · rw [if_pos (Or.inr (Or.inr f3))]
              refine ⟨tf_rfS G S o 6, tf_Fn_of (own := RX11) false ⟨by decide, rfl, by decide⟩ (Nat.le_of_ble_eq_true rfl) trivial (fun x hx hR => ?_), tf_ms_ref ho hd hM 6, tf_fm_0⟩
              show tf_K x 0 0 G S 0 [some (.ref o), some (.int st), some (.int ep), some (.int ga), none, none, none] []
              refine tf_go hx ftX11_summer 1 [] 1 [some (.ref o), some (.int st), some (.int ep), some (.int ga), none, none, none] [.int st] S rfl ⟨by decide, by decide, rfl⟩ trivial ?_
              refine tf_go hx ftX11_summer 1 [false] 4 [some (.ref o), some (.int st), some (.int ep), some (.int ga), none, none, none] [] S rfl ⟨by decide, by decide, rfl⟩ ⟨trivial, e1⟩ ?_
              refine tf_go hx ftX11_summer 2 [] 6 [some (.ref o), some (.int st), some (.int ep), some (.int ga), none, none, none] [.int 1, .int ep] S rfl ⟨by decide, by decide, rfl⟩ trivial ?_
              refine tf_go hx ftX11_summer 1 [false] 9 [some (.ref o), some (.int st), some (.int ep), some (.int ga), none, none, none] [] S rfl ⟨by decide, by decide, rfl⟩ ⟨trivial, e2⟩ ?_
              refine tf_go hx ftX11_summer 2 [] 11 [some (.ref o), some (.int st), some (.int ep), some (.int ga), none, none, none] [.int 1, .int ga] S rfl ⟨by decide, by decide, rfl⟩ trivial ?_
              refine tf_go hx ftX11_summer 1 [true] 21 [some (.ref o), some (.int st), some (.int ep), some (.int ga), none, none, none] [] S rfl ⟨by decide, by decide, rfl⟩ ⟨trivial, (Int32.not_lt.mp e3)⟩ ?_
              refine tf_go hx ftX11_summer 2 [] 24 [some (.ref o), some (.int st), some (.int ep), some (.int ga), none, none, none] [.int 99, .int st] S rfl ⟨by decide, by decide, rfl⟩ trivial ?_
              refine tf_go hx ftX11_summer 1 [false] 27 [some (.ref o), some (.int st), some (.int ep), some (.int ga), none, none, none] [] S rfl ⟨by decide, by decide, rfl⟩ ⟨trivial, f1⟩ ?_
              refine tf_go hx ftX11_summer 2 [] 30 [some (.ref o), some (.int st), some (.int ep), some (.int ga), none, none, none] [.int 50, .int ep] S rfl ⟨by decide, by decide, rfl⟩ trivial ?_
              refine tf_go hx ftX11_summer 1 [false] 33 [some (.ref o), some (.int st), some (.int ep), some (.int ga), none, none, none] [] S rfl ⟨by decide, by decide, rfl⟩ ⟨trivial, f2⟩ ?_
              refine tf_go hx ftX11_summer 2 [] 36 [some (.ref o), some (.int st), some (.int ep), some (.int ga), none, none, none] [.int 50, .int ga] S rfl ⟨by decide, by decide, rfl⟩ trivial ?_
              refine tf_go hx ftX11_summer 3 [false] 42 [some (.ref o), some (.int st), some (.int ep), some (.int ga), none, none, none] [.int (-6), .ref o] S rfl ⟨by decide, by decide, rfl⟩ ⟨trivial, (Int32.not_le.mpr f3)⟩ ?_
              refine tf_cV hx ftX11_summer (nx := 45) (As := [.int (-6)]) (rest := []) (st2 := [.int (-6)]) (m_ref6 ho) rfl lX11_26 (by first | assumption | rfl | decide) rfl ⟨rfl, by decide, by decide, by decide, rfl, rfl⟩ ?_
              exact tf_ret ftX11_summer hR rfl ⟨by decide, by decide⟩ rfl rfl rfl
            · rw [if_neg (by rintro (h | h | h); exact f1 h; exact f2 h; exact f3 h)]
              obtain ⟨st1, st1_le, st1_eq⟩ := nI_of2 (M := 99) (n := 99) (x := st) (by decide) e1 (Int32.not_lt.mp f1)
              obtain ⟨ep1, ep1_le, ep1_eq⟩ := nI_of2 (M := 50) (n := 50) (x := ep) (by decide) (fun h => e2 (Int32.lt_trans h (by decide))) (Int32.not_lt.mp f2)
              obtain ⟨ga1, ga1_le, ga1_eq⟩ := nI_of2 (M := 50) (n := 50) (x := ga) (by decide) (fun h => e3 (Int32.lt_trans h (by decide))) (Int32.not_lt.mp f3)
              subst st1_eq
              subst ep1_eq
              subst ga1_eq
              rw [tf_cl_nI (show st1 < 2147483648 by omega), tf_cl_nI (show ep1 < 2147483648 by omega), tf_cl_nI (show ga1 < 2147483648 by omega)]
              refine ⟨S, tf_Fn_of (own := RX11) false ⟨by decide, rfl, by decide⟩ (Nat.le_of_ble_eq_true rfl) trivial (fun x hx hR => ?_), hM, tf_fm_id⟩
              show tf_K x 0 0 G S 0 [some (.ref o), some (.int (nI st1)), some (.int (nI ep1)), some (.int (nI ga1)), none, none, none] []
              refine tf_go hx ftX11_summer 1 [] 1 [some (.ref o), some (.int (nI st1)), some (.int (nI ep1)), some (.int (nI ga1)), none, none, none] [.int (nI st1)] S rfl ⟨by decide, by decide, rfl⟩ trivial ?_
              refine tf_go hx ftX11_summer 1 [false] 4 [some (.ref o), some (.int (nI st1)), some (.int (nI ep1)), some (.int (nI ga1)), none, none, none] [] S rfl ⟨by decide, by decide, rfl⟩ ⟨trivial, e1⟩ ?_
              refine tf_go hx ftX11_summer 2 [] 6 [some (.ref o), some (.int (nI st1)), some (.int (nI ep1)), some (.int (nI ga1)), none, none, none] [.int 1, .int (nI ep1)] S rfl ⟨by decide, by decide, rfl⟩ trivial ?_
              refine tf_go hx ftX11_summer 1 [false] 9 [some (.ref o), some (.int (nI st1)), some (.int (nI ep1)), some (.int (nI ga1)), none, none, none] [] S rfl ⟨by decide, by decide, rfl⟩ ⟨trivial, e2⟩ ?_
              refine tf_go hx ftX11_summer 2 [] 11 [some (.ref o), some (.int (nI st1)), some (.int (nI ep1)), some (.int (nI ga1)), none, none, none] [.int 1, .int (nI ga1)] S rfl ⟨by decide, by decide, rfl⟩ trivial ?_
              refine tf_go hx ftX11_summer 1 [true] 21 [some (.ref o), some (.int (nI st1)), some (.int (nI ep1)), some (.int (nI ga1)), none, none, none] [] S rfl ⟨by decide, by decide, rfl⟩ ⟨trivial, (Int32.not_lt.mp e3)⟩ ?_
              refine tf_go hx ftX11_summer 2 [] 24 [some (.ref o), some (.int (nI st1)), some (.int (nI ep1)), some (.int (nI ga1)), none, none, none] [.int 99, .int (nI st1)] S rfl ⟨by decide, by decide, rfl⟩ trivial ?_
              refine tf_go hx ftX11_summer 1 [false] 27 [some (.ref o), some (.int (nI st1)), some (.int (nI ep1)), some (.int (nI ga1)), none, none, none] [] S rfl ⟨by decide, by decide, rfl⟩ ⟨trivial, f1⟩ ?_
              refine tf_go hx ftX11_summer 2 [] 30 [some (.ref o), some (.int (nI st1)), some (.int (nI ep1)), some (.int (nI ga1)), none, none, none] [.int 50, .int (nI ep1)] S rfl ⟨by decide, by decide, rfl⟩ trivial ?_
              refine tf_go hx ftX11_summer 1 [false] 33 [some (.ref o), some (.int (nI st1)), some (.int (nI ep1)), some (.int (nI ga1)), none, none, none] [] S rfl ⟨by decide, by decide, rfl⟩ ⟨trivial, f2⟩ ?_
              refine tf_go hx ftX11_summer 2 [] 36 [some (.ref o), some (.int (nI st1)), some (.int (nI ep1)), some (.int (nI ga1)), none, none, none] [.int 50, .int (nI ga1)] S rfl ⟨by decide, by decide, rfl⟩ trivial ?_
              refine tf_go hx ftX11_summer 5 [true] 52 [some (.ref o), some (.int (nI st1)), some (.int (nI ep1)), some (.int (nI ga1)), some (.int 0), some (.int 0), none] [] S rfl ⟨by decide, by decide, rfl⟩ ⟨trivial, (Int32.not_lt.mp f3)⟩ ?_
              refine tf_fgt [some (.ref o), some (.int (nI st1)), some (.int (nI ep1)), some (.int (nI ga1)), some (.int 0), some (.int 0), none] (by simp [tf_lss]) ?_
              have loop : ∀ (m k : Nat) (t : Nat), k + m = 999 → (tf_su st1 ep1 ga1 m k t = tf_su st1 ep1 ga1 999 0 0) → (t ≤ 150 * k) → tf_K x 0 0 G S 52 [some (.ref o), some (.int (nI st1)), some (.int (nI ep1)), some (.int (nI ga1)), some (.int ((nI t) - (nI (100 * k)))), some (.int (nI k)), none] [] := by
                intro m
                induction m with
                | zero =>
                  intro k t hk he ht
                  refine tf_go hx ftX11_summer 2 [] 57 [some (.ref o), some (.int (nI st1)), some (.int (nI ep1)), some (.int (nI ga1)), some (.int ((nI t) - (nI (100 * k)))), some (.int (nI k)), none] [.int 999, .int (nI k)] S rfl ⟨by decide, by decide, rfl⟩ trivial ?_
                  refine tf_go hx ftX11_summer 2 [true] 110 [some (.ref o), some (.int (nI st1)), some (.int (nI ep1)), some (.int (nI ga1)), some (.int ((nI t) - (nI (100 * k)))), some (.int (nI k)), none] [.int (-9)] S rfl ⟨by decide, by decide, rfl⟩ ⟨trivial, (tf_leT (a := 999) (b := k) (rfl : (999 : Int32) = nI 999) rfl (by omega) (by omega) (by omega))⟩ ?_
                  exact tf_ret ftX11_summer hR rfl ⟨by decide, by decide⟩ rfl rfl (by rw [← he]; show _ = [Value.int (tf_on 999 k)]; rw [tf_on_n (by omega)])
                | succ m ih =>
                  intro k t hk he ht
                  rw [tf_su_s] at he
                  have km := Nat.mul_le_mul (show k ≤ 999 by omega) ep1_le
                  refine tf_go hx ftX11_summer 2 [] 57 [some (.ref o), some (.int (nI st1)), some (.int (nI ep1)), some (.int (nI ga1)), some (.int ((nI t) - (nI (100 * k)))), some (.int (nI k)), none] [.int 999, .int (nI k)] S rfl ⟨by decide, by decide, rfl⟩ trivial ?_
                  refine tf_go hx ftX11_summer 1 [false] 60 [some (.ref o), some (.int (nI st1)), some (.int (nI ep1)), some (.int (nI ga1)), some (.int ((nI t) - (nI (100 * k)))), some (.int (nI k)), none] [] S rfl ⟨by decide, by decide, rfl⟩ ⟨trivial, (tf_leF (a := 999) (b := k) (rfl : (999 : Int32) = nI 999) rfl (by omega) (by omega) (by omega))⟩ ?_
                  refine tf_go hx ftX11_summer 11 [] 76 [some (.ref o), some (.int (nI st1)), some (.int (nI ep1)), some (.int (nI ga1)), some (.int ((nI t) - (nI (100 * k)))), some (.int (nI k)), some (.int ((nI st1) + ((nI k) * (nI ep1))))] [.int (100 + (nI ga1)), .int ((nI st1) + ((nI k) * (nI ep1))), .int ((nI t) - (nI (100 * k)))] S rfl ⟨by decide, by decide, rfl⟩ trivial ?_
                  rw [show ((nI st1) + ((nI k) * (nI ep1))) = nI (st1 + (k * ep1)) from (tf_add (a := st1) (b := (k * ep1)) rfl (tf_mul (a := k) (b := ep1) rfl rfl))]
                  rw [show (100 + (nI ga1)) = nI (100 + ga1) from (tf_add (a := 100) (b := ga1) (rfl : (100 : Int32) = nI 100) rfl)]
                  by_cases d1 : 100 + ga1 < st1 + k * ep1
                  · refine tf_go hx ftX11_summer 1 [false] 79 [some (.ref o), some (.int (nI st1)), some (.int (nI ep1)), some (.int (nI ga1)), some (.int ((nI t) - (nI (100 * k)))), some (.int (nI k)), some (.int (nI (st1 + (k * ep1))))] [.int ((nI t) - (nI (100 * k)))] S rfl ⟨by decide, by decide, rfl⟩ ⟨trivial, (tf_leF (a := (st1 + (k * ep1))) (b := (100 + ga1)) rfl rfl (by omega) (by omega) (by omega))⟩ ?_
                    rw [if_pos d1] at he
                    refine tf_go hx ftX11_summer 9 [] 96 [some (.ref o), some (.int (nI st1)), some (.int (nI ep1)), some (.int (nI ga1)), some (.int (((nI t) - (nI (100 * k))) + ((100 + (nI ga1)) - 100))), some (.int (nI k)), some (.int (nI (st1 + (k * ep1))))] [.int (((nI t) - (nI (100 * k))) + ((100 + (nI ga1)) - 100))] S rfl ⟨by decide, by decide, rfl⟩ trivial ?_
                    rw [show (100 + (nI ga1)) = nI (100 + ga1) from (tf_add (a := 100) (b := ga1) (rfl : (100 : Int32) = nI 100) rfl)]
                    rw [show (((nI t) - (nI (100 * k))) + ((nI ((100 + ga1))) - 100)) = (nI (t + (100 + ga1))) - (nI (100 * (k + 1))) from tf_smr t k ((100 + ga1))]
                    by_cases d2 : 100 * (k + 1) ≤ t + (100 + ga1)
                    · rw [if_pos d2] at he
                      refine tf_go hx ftX11_summer 2 [false] 101 [some (.ref o), some (.int (nI st1)), some (.int (nI ep1)), some (.int (nI ga1)), some (.int ((nI (t + (100 + ga1))) - (nI (100 * (k + 1))))), some (.int (nI k)), some (.int (nI (st1 + (k * ep1))))] [.int (nI k)] S rfl ⟨by decide, by decide, rfl⟩ ⟨trivial, (by rw [pk_sub d2]; exact nI_pos (by omega))⟩ ?_
                      exact tf_ret ftX11_summer hR rfl ⟨by decide, by decide⟩ rfl rfl (by rw [← he]; show _ = [Value.int (tf_on 999 k)]; rw [tf_on_y (by omega)])
                    · rw [if_neg d2] at he
                      refine tf_go hx ftX11_summer 3 [true] 52 [some (.ref o), some (.int (nI st1)), some (.int (nI ep1)), some (.int (nI ga1)), some (.int ((nI (t + (100 + ga1))) - (nI (100 * (k + 1))))), some (.int ((nI k) + 1)), some (.int (nI (st1 + (k * ep1))))] [] S rfl ⟨by decide, by decide, rfl⟩ ⟨trivial, (pk_sneg (by omega) (by omega))⟩ ?_
                      rw [show ((nI k) + 1) = nI (k + 1) from (tf_add (a := k) (b := 1) rfl (rfl : (1 : Int32) = nI 1))]
                      refine tf_fgt [some (.ref o), some (.int (nI st1)), some (.int (nI ep1)), some (.int (nI ga1)), some (.int ((nI (t + (100 + ga1))) - (nI (100 * (k + 1))))), some (.int (nI (k + 1))), none] (by simp [tf_lss]) ?_
                      exact ih (k + 1) (t + (100 + ga1)) (by omega) he (by omega)
                  · refine tf_go hx ftX11_summer 1 [true] 86 [some (.ref o), some (.int (nI st1)), some (.int (nI ep1)), some (.int (nI ga1)), some (.int ((nI t) - (nI (100 * k)))), some (.int (nI k)), some (.int (nI (st1 + (k * ep1))))] [.int ((nI t) - (nI (100 * k)))] S rfl ⟨by decide, by decide, rfl⟩ ⟨trivial, (tf_leT (a := (st1 + (k * ep1))) (b := (100 + ga1)) rfl rfl (by omega) (by omega) (by omega))⟩ ?_
                    rw [if_neg d1] at he
                    refine tf_go hx ftX11_summer 6 [] 96 [some (.ref o), some (.int (nI st1)), some (.int (nI ep1)), some (.int (nI ga1)), some (.int (((nI t) - (nI (100 * k))) + ((nI (st1 + (k * ep1))) - 100))), some (.int (nI k)), some (.int (nI (st1 + (k * ep1))))] [.int (((nI t) - (nI (100 * k))) + ((nI (st1 + (k * ep1))) - 100))] S rfl ⟨by decide, by decide, rfl⟩ trivial ?_
                    rw [show (((nI t) - (nI (100 * k))) + ((nI ((st1 + k * ep1))) - 100)) = (nI (t + (st1 + k * ep1))) - (nI (100 * (k + 1))) from tf_smr t k ((st1 + k * ep1))]
                    by_cases d2 : 100 * (k + 1) ≤ t + (st1 + k * ep1)
                    · rw [if_pos d2] at he
                      refine tf_go hx ftX11_summer 2 [false] 101 [some (.ref o), some (.int (nI st1)), some (.int (nI ep1)), some (.int (nI ga1)), some (.int ((nI (t + (st1 + k * ep1))) - (nI (100 * (k + 1))))), some (.int (nI k)), some (.int (nI (st1 + (k * ep1))))] [.int (nI k)] S rfl ⟨by decide, by decide, rfl⟩ ⟨trivial, (by rw [pk_sub d2]; exact nI_pos (by omega))⟩ ?_
                      exact tf_ret ftX11_summer hR rfl ⟨by decide, by decide⟩ rfl rfl (by rw [← he]; show _ = [Value.int (tf_on 999 k)]; rw [tf_on_y (by omega)])
                    · rw [if_neg d2] at he
                      refine tf_go hx ftX11_summer 3 [true] 52 [some (.ref o), some (.int (nI st1)), some (.int (nI ep1)), some (.int (nI ga1)), some (.int ((nI (t + (st1 + k * ep1))) - (nI (100 * (k + 1))))), some (.int ((nI k) + 1)), some (.int (nI (st1 + (k * ep1))))] [] S rfl ⟨by decide, by decide, rfl⟩ ⟨trivial, (pk_sneg (by omega) (by omega))⟩ ?_
                      rw [show ((nI k) + 1) = nI (k + 1) from (tf_add (a := k) (b := 1) rfl (rfl : (1 : Int32) = nI 1))]
                      refine tf_fgt [some (.ref o), some (.int (nI st1)), some (.int (nI ep1)), some (.int (nI ga1)), some (.int ((nI (t + (st1 + k * ep1))) - (nI (100 * (k + 1))))), some (.int (nI (k + 1))), none] (by simp [tf_lss]) ?_
                      exact ih (k + 1) (t + (st1 + k * ep1)) (by omega) he (by omega)
              exact loop 999 0 0 rfl rfl (by omega)

theorem tf_ms_im {G : tf_G} {S : tf_Sg} {o : Nat} {A : tf_A} (ho : tf_mo G o) (hd : tf_md G o) (h : tf_ms G S o A) : tf_ms G (tf_set (tf_rw S (tf_rf G o 2) (tf_mx A.1 A.2.2.2.2.1 368)) o 3 1) o (A.1, A.2.1, A.2.2.1, A.2.2.2.1, tf_mx A.1 A.2.2.2.2.1 368, 1) := by
  obtain ⟨a1, a2, a3, a4, a5, a6⟩ := h
  obtain ⟨n0, n1, n2, n4⟩ := tf_mo_ne ho
  obtain ⟨d1, d2, d3, d4, d5, d6⟩ := hd
  refine ⟨fun j => ?_, fun j => ?_, ?_, fun j => ?_, fun j => ?_, ?_⟩
  · rw [tf_set_n n1, tf_rw_n d4]; exact a1 j
  · rw [tf_set_n n4, tf_rw_n (Ne.symm d6)]; exact a2 j
  · rw [tf_set_k (by decide), tf_rw_n (Ne.symm n2)]; exact a3
  · rw [tf_set_n n0, tf_rw_n d2]; exact a4 j
  · rw [tf_set_n n2]; exact tf_rw_a j
  · rw [tf_set_s]; rfl

set_option maxHeartbeats 2000000 in
theorem p_image {G : tf_G} {S : tf_Sg} {o : Nat} {A : tf_A}  (ho : tf_mo G o) (hd : tf_md G o) (hA : tf_okA A) (hM : tf_ms G S o A)  : tf_pm mX11_image 1 G S o [.ref o] (s_image A) := by
  obtain ⟨h1, ⟨r0, t0, n0⟩, ⟨r1, t1, n1⟩, ⟨r2, t2, n2⟩, ⟨r4, t4, n4⟩⟩ := id ho
  obtain ⟨hg, hb, hA3, hA4, hA5, hA6⟩ := id hA
  have hs := hM.1
  have hf : tf_sf G S o A.1 := ⟨hM.1, hb⟩
  obtain ⟨⟨g1, g2, g3, g4⟩, g5, g6, g7, g8, g9, g10, g11⟩ := id hg
  obtain ⟨z0, z1, z2, z4⟩ := tf_mo_ne ho
  obtain ⟨m01, m02, m04, m12, m14, m24⟩ := id hd
  unfold s_image
  refine ⟨(tf_set (tf_rw S (tf_rf G o 2) (tf_mx A.1 A.2.2.2.2.1 368)) o 3 1), tf_Fn_of (own := RX11) false ⟨by decide, rfl, by decide⟩ (Nat.le_of_ble_eq_true rfl) trivial (fun x hx hR => ?_), tf_ms_im ho hd hM, (tf_fm_tr tf_fm_2 tf_fm_o)⟩
  show tf_K x 0 0 G S 0 [some (.ref o), none] []
  refine tf_go hx ftX11_image 2 [] 2 [some (.ref o), some (.int 0)] [] S rfl ⟨by decide, by decide, rfl⟩ trivial ?_
  refine tf_fgt [some (.ref o), some (.int 0)] (by simp [tf_lss]) ?_
  have hid : tf_rw S (tf_rf G o 2) A.2.2.2.2.1 = S := tf_rw_id hM.2.2.2.2.1
  have loop : ∀ (m k : Nat), k + m = 368 → tf_K x 0 0 G (tf_rw S (tf_rf G o 2) (tf_mx A.1 A.2.2.2.2.1 k)) 2 [some (.ref o), some (.int (nI k))] [] := by
    intro m
    induction m with
    | zero =>
      intro k hk
      have hk2 : k = 368 := by omega
      refine tf_go hx ftX11_image 2 [] 6 [some (.ref o), some (.int (nI k))] [.int 368, .int (nI k)] (tf_rw S (tf_rf G o 2) (tf_mx A.1 A.2.2.2.2.1 k)) rfl ⟨by decide, by decide, rfl⟩ trivial ?_
      refine tf_go hx ftX11_image 1 [true] 27 [some (.ref o), some (.int (nI k))] [] (tf_rw S (tf_rf G o 2) (tf_mx A.1 A.2.2.2.2.1 k)) rfl ⟨by decide, by decide, rfl⟩ ⟨trivial, (tf_leT (a := 368) (b := k) (rfl : (368 : Int32) = nI 368) rfl (by omega) (by omega) (by omega))⟩ ?_
      rw [show k = 368 by omega]
      refine tf_go hx ftX11_image 3 [] 32 [some (.ref o), some (.int (nI 368))] [] (tf_set (tf_rw S (tf_rf G o 2) (tf_mx A.1 A.2.2.2.2.1 368)) o 3 1) rfl ⟨by decide, by decide, rfl⟩ ⟨trivial, ⟨by first | assumption | rfl | decide | omega, by first | exact Or.inl rfl | exact Or.inr rfl⟩⟩ ?_
      have rr : ∀ j, (tf_set (tf_rw S (tf_rf G o 2) (tf_mx A.1 A.2.2.2.2.1 368)) o 3 1) (tf_rf G o 1) j = nI (A.1 j) := fun j => by rw [tf_set_n z1, tf_rw_n m12]; exact hs j
      refine tf_go hx ftX11_image 4 [] 40 [some (.ref o), some (.int (nI 368))] [.int ((tf_set (tf_rw S (tf_rf G o 2) (tf_mx A.1 A.2.2.2.2.1 368)) o 3 1) (tf_rf G o 1) (Int32.toNatClampNeg 366))] (tf_set (tf_rw S (tf_rf G o 2) (tf_mx A.1 A.2.2.2.2.1 368)) o 3 1) rfl ⟨by decide, by decide, rfl⟩ ⟨⟨trivial, ⟨by first | assumption | rfl | decide | omega, by first | assumption | rfl | decide | omega⟩⟩, ⟨Or.inl (by first | assumption | rfl | decide | omega), by first | assumption | exact tf_in (n := 366) (rfl : (366 : Int32) = nI 366) (by first | assumption | rfl) (by omega) (by decide)⟩⟩ ?_
      rw [show ((tf_set (tf_rw S (tf_rf G o 2) (tf_mx A.1 A.2.2.2.2.1 368)) o 3 1) (tf_rf G o 1) (Int32.toNatClampNeg 366)) = nI (A.1 366) from (tf_rd rr (rfl : (366 : Int32) = nI 366) (by omega))]
      exact tf_ret ftX11_image hR rfl ⟨by decide, by decide⟩ rfl rfl rfl
    | succ m ih =>
      intro k hk
      have rr : ∀ j, (tf_rw S (tf_rf G o 2) (tf_mx A.1 A.2.2.2.2.1 k)) (tf_rf G o 1) j = nI (A.1 j) := fun j => by rw [tf_rw_n m12]; exact hs j
      refine tf_go hx ftX11_image 2 [] 6 [some (.ref o), some (.int (nI k))] [.int 368, .int (nI k)] (tf_rw S (tf_rf G o 2) (tf_mx A.1 A.2.2.2.2.1 k)) rfl ⟨by decide, by decide, rfl⟩ trivial ?_
      refine tf_go hx ftX11_image 1 [false] 9 [some (.ref o), some (.int (nI k))] [] (tf_rw S (tf_rf G o 2) (tf_mx A.1 A.2.2.2.2.1 k)) rfl ⟨by decide, by decide, rfl⟩ ⟨trivial, (tf_leF (a := 368) (b := k) (rfl : (368 : Int32) = nI 368) rfl (by omega) (by omega) (by omega))⟩ ?_
      refine tf_go hx ftX11_image 7 [] 20 [some (.ref o), some (.int (nI k))] [.int ((tf_rw S (tf_rf G o 2) (tf_mx A.1 A.2.2.2.2.1 k)) (tf_rf G o 1) (Int32.toNatClampNeg (nI k))), .int (nI k), .ref (tf_rf G o 2)] (tf_rw S (tf_rf G o 2) (tf_mx A.1 A.2.2.2.2.1 k)) rfl ⟨by decide, by decide, rfl⟩ ⟨⟨⟨trivial, ⟨by first | assumption | rfl | decide | omega, by first | assumption | rfl | decide | omega⟩⟩, ⟨by first | assumption | rfl | decide | omega, by first | assumption | rfl | decide | omega⟩⟩, ⟨Or.inl (by first | assumption | rfl | decide | omega), by first | assumption | exact tf_in (n := k) rfl (by first | assumption | rfl) (by omega) (by decide)⟩⟩ ?_
      rw [show ((tf_rw S (tf_rf G o 2) (tf_mx A.1 A.2.2.2.2.1 k)) (tf_rf G o 1) (Int32.toNatClampNeg (nI k))) = nI (A.1 k) from (tf_rd rr rfl (by omega))]
      refine tf_go hx ftX11_image 1 [] 21 [some (.ref o), some (.int (nI k))] [] (tf_set (tf_rw S (tf_rf G o 2) (tf_mx A.1 A.2.2.2.2.1 k)) (tf_rf G o 2) (Int32.toNatClampNeg (nI k)) (nI (A.1 k))) rfl ⟨by decide, by decide, rfl⟩ ⟨trivial, ⟨by first | assumption | rfl | decide | omega, by first | assumption | exact tf_in (n := k) rfl (by first | assumption | rfl) (by omega) (by decide)⟩⟩ ?_
      rw [show Int32.toNatClampNeg (nI k) = k from tf_cln rfl (by omega)]
      rw [tf_rw_u2, tf_mx_s]
      refine tf_go hx ftX11_image 2 [] 2 [some (.ref o), some (.int ((nI k) + 1))] [] (tf_rw S (tf_rf G o 2) (tf_mx A.1 A.2.2.2.2.1 (k + 1))) rfl ⟨by decide, by decide, rfl⟩ trivial ?_
      rw [show ((nI k) + 1) = nI (k + 1) from (tf_add (a := k) (b := 1) rfl (rfl : (1 : Int32) = nI 1))]
      exact ih (k + 1) (by omega)
  have h0 := loop 368 0 rfl
  rw [tf_mx_0, hid] at h0
  exact h0

set_option maxHeartbeats 2000000 in
theorem p_on {G : tf_G} {S : tf_Sg} {o : Nat} {A : tf_A}  (ho : tf_mo G o) (hd : tf_md G o) (hA : tf_okA A) (hM : tf_ms G S o A)  : tf_pm mX11_on 2 G S o [.ref o] (s_on A) := by
  obtain ⟨h1, ⟨r0, t0, n0⟩, ⟨r1, t1, n1⟩, ⟨r2, t2, n2⟩, ⟨r4, t4, n4⟩⟩ := id ho
  obtain ⟨hg, hb, hA3, hA4, hA5, hA6⟩ := id hA
  have hs := hM.1
  have hf : tf_sf G S o A.1 := ⟨hM.1, hb⟩
  obtain ⟨⟨g1, g2, g3, g4⟩, g5, g6, g7, g8, g9, g10, g11⟩ := id hg
  obtain ⟨z0, z1, z2, z4⟩ := tf_mo_ne ho
  obtain ⟨m01, m02, m04, m12, m14, m24⟩ := id hd
  have im2 : A.2.2.2.2.2 < 2 := by rcases hA6 with h | h; rw [h]; decide; rw [h.1]; decide
  unfold s_on
  by_cases e1 : A.2.2.2.2.2 = 0
  · rw [if_pos e1]
    refine ⟨tf_rfS G S o 3, tf_Fn_of (own := RX11) false ⟨by decide, rfl, by decide⟩ (Nat.le_of_ble_eq_true rfl) trivial (fun x hx hR => ?_), tf_ms_ref ho hd hM 3, tf_fm_0⟩
    show tf_K x 0 0 G S 0 [some (.ref o), none] []
    refine tf_go hx ftX11_on 2 [] 4 [some (.ref o), none] [.int (S o 3)] S rfl ⟨by decide, by decide, rfl⟩ ⟨trivial, (by first | assumption | rfl | decide | omega)⟩ ?_
    rw [show (S o 3) = nI A.2.2.2.2.2 from hM.2.2.2.2.2]
    refine tf_go hx ftX11_on 3 [false] 10 [some (.ref o), none] [.int (-3), .ref o] S rfl ⟨by decide, by decide, rfl⟩ ⟨trivial, (tf_neF (a := A.2.2.2.2.2) (b := 0) rfl (rfl : (0 : Int32) = nI 0) (by omega))⟩ ?_
    refine tf_cV hx ftX11_on (nx := 13) (As := [.int (-3)]) (rest := []) (st2 := [.int (-3)]) (m_ref3 ho) rfl lX11_26 (by first | assumption | rfl | decide) rfl ⟨rfl, by decide, by decide, by decide, rfl, rfl⟩ ?_
    exact tf_ret ftX11_on hR rfl ⟨by decide, by decide⟩ rfl rfl rfl
  · rw [if_neg e1]
    refine ⟨(tf_rw S (tf_rf G o 1) (tf_mx A.2.2.2.2.1 A.1 368)), tf_Fn_of (own := RX11) false ⟨by decide, rfl, by decide⟩ (Nat.le_of_ble_eq_true rfl) trivial (fun x hx hR => ?_), tf_ms_rw ho hd hM _, tf_fm_1⟩
    show tf_K x 0 0 G S 0 [some (.ref o), none] []
    refine tf_go hx ftX11_on 2 [] 4 [some (.ref o), none] [.int (S o 3)] S rfl ⟨by decide, by decide, rfl⟩ ⟨trivial, (by first | assumption | rfl | decide | omega)⟩ ?_
    rw [show (S o 3) = nI A.2.2.2.2.2 from hM.2.2.2.2.2]
    refine tf_go hx ftX11_on 3 [true] 16 [some (.ref o), some (.int 0)] [] S rfl ⟨by decide, by decide, rfl⟩ ⟨trivial, (tf_eqF (a := A.2.2.2.2.2) (b := 0) rfl (rfl : (0 : Int32) = nI 0) (by omega) (by omega) (by omega))⟩ ?_
    refine tf_fgt [some (.ref o), some (.int 0)] (by simp [tf_lss]) ?_
    have hid : tf_rw S (tf_rf G o 1) A.1 = S := tf_rw_id hs
    have loop : ∀ (m k : Nat), k + m = 368 → tf_K x 0 0 G (tf_rw S (tf_rf G o 1) (tf_mx A.2.2.2.2.1 A.1 k)) 16 [some (.ref o), some (.int (nI k))] [] := by
      intro m
      induction m with
      | zero =>
        intro k hk
        refine tf_go hx ftX11_on 2 [] 20 [some (.ref o), some (.int (nI k))] [.int 368, .int (nI k)] (tf_rw S (tf_rf G o 1) (tf_mx A.2.2.2.2.1 A.1 k)) rfl ⟨by decide, by decide, rfl⟩ trivial ?_
        refine tf_go hx ftX11_on 1 [true] 41 [some (.ref o), some (.int (nI k))] [] (tf_rw S (tf_rf G o 1) (tf_mx A.2.2.2.2.1 A.1 k)) rfl ⟨by decide, by decide, rfl⟩ ⟨trivial, (tf_leT (a := 368) (b := k) (rfl : (368 : Int32) = nI 368) rfl (by omega) (by omega) (by omega))⟩ ?_
        rw [show k = 368 by omega]
        have hb9 : ∀ j, tf_mx A.2.2.2.2.1 A.1 368 j < 10000 := fun j => by unfold tf_mx; split; exact hA5 j; exact hb j
        refine tf_go hx ftX11_on 4 [] 49 [some (.ref o), some (.int (nI 368))] [.int ((tf_rw S (tf_rf G o 1) (tf_mx A.2.2.2.2.1 A.1 368)) (tf_rf G o 1) (Int32.toNatClampNeg 366))] (tf_rw S (tf_rf G o 1) (tf_mx A.2.2.2.2.1 A.1 368)) rfl ⟨by decide, by decide, rfl⟩ ⟨⟨trivial, ⟨by first | assumption | rfl | decide | omega, by first | assumption | rfl | decide | omega⟩⟩, ⟨Or.inl (by first | assumption | rfl | decide | omega), by first | assumption | exact tf_in (n := 366) (rfl : (366 : Int32) = nI 366) (by first | assumption | rfl) (by omega) (by decide)⟩⟩ ?_
        rw [show ((tf_rw S (tf_rf G o 1) (tf_mx A.2.2.2.2.1 A.1 368)) (tf_rf G o 1) (Int32.toNatClampNeg 366)) = nI ((tf_mx A.2.2.2.2.1 A.1 368) 366) from (tf_rd tf_rw_a (rfl : (366 : Int32) = nI 366) (by omega))]
        exact tf_ret ftX11_on hR rfl ⟨by decide, by decide⟩ rfl rfl (by unfold tf_mx; rw [if_pos (by decide)]; rfl)
      | succ m ih =>
        intro k hk
        have rr : ∀ j, (tf_rw S (tf_rf G o 1) (tf_mx A.2.2.2.2.1 A.1 k)) (tf_rf G o 2) j = nI (A.2.2.2.2.1 j) := fun j => by rw [tf_rw_n (Ne.symm m12)]; exact hM.2.2.2.2.1 j
        refine tf_go hx ftX11_on 2 [] 20 [some (.ref o), some (.int (nI k))] [.int 368, .int (nI k)] (tf_rw S (tf_rf G o 1) (tf_mx A.2.2.2.2.1 A.1 k)) rfl ⟨by decide, by decide, rfl⟩ trivial ?_
        refine tf_go hx ftX11_on 1 [false] 23 [some (.ref o), some (.int (nI k))] [] (tf_rw S (tf_rf G o 1) (tf_mx A.2.2.2.2.1 A.1 k)) rfl ⟨by decide, by decide, rfl⟩ ⟨trivial, (tf_leF (a := 368) (b := k) (rfl : (368 : Int32) = nI 368) rfl (by omega) (by omega) (by omega))⟩ ?_
        refine tf_go hx ftX11_on 7 [] 34 [some (.ref o), some (.int (nI k))] [.int ((tf_rw S (tf_rf G o 1) (tf_mx A.2.2.2.2.1 A.1 k)) (tf_rf G o 2) (Int32.toNatClampNeg (nI k))), .int (nI k), .ref (tf_rf G o 1)] (tf_rw S (tf_rf G o 1) (tf_mx A.2.2.2.2.1 A.1 k)) rfl ⟨by decide, by decide, rfl⟩ ⟨⟨⟨trivial, ⟨by first | assumption | rfl | decide | omega, by first | assumption | rfl | decide | omega⟩⟩, ⟨by first | assumption | rfl | decide | omega, by first | assumption | rfl | decide | omega⟩⟩, ⟨Or.inl (by first | assumption | rfl | decide | omega), by first | assumption | exact tf_in (n := k) rfl (by first | assumption | rfl) (by omega) (by decide)⟩⟩ ?_
        rw [show ((tf_rw S (tf_rf G o 1) (tf_mx A.2.2.2.2.1 A.1 k)) (tf_rf G o 2) (Int32.toNatClampNeg (nI k))) = nI (A.2.2.2.2.1 k) from (tf_rd rr rfl (by omega))]
        refine tf_go hx ftX11_on 1 [] 35 [some (.ref o), some (.int (nI k))] [] (tf_set (tf_rw S (tf_rf G o 1) (tf_mx A.2.2.2.2.1 A.1 k)) (tf_rf G o 1) (Int32.toNatClampNeg (nI k)) (nI (A.2.2.2.2.1 k))) rfl ⟨by decide, by decide, rfl⟩ ⟨trivial, ⟨by first | assumption | rfl | decide | omega, by first | assumption | exact tf_in (n := k) rfl (by first | assumption | rfl) (by omega) (by decide)⟩⟩ ?_
        rw [show Int32.toNatClampNeg (nI k) = k from tf_cln rfl (by omega)]
        rw [tf_rw_u2, tf_mx_s]
        refine tf_go hx ftX11_on 2 [] 16 [some (.ref o), some (.int ((nI k) + 1))] [] (tf_rw S (tf_rf G o 1) (tf_mx A.2.2.2.2.1 A.1 (k + 1))) rfl ⟨by decide, by decide, rfl⟩ trivial ?_
        rw [show ((nI k) + 1) = nI (k + 1) from (tf_add (a := k) (b := 1) rfl (rfl : (1 : Int32) = nI 1))]
        exact ih (k + 1) (by omega)
    have h0 := loop 368 0 rfl
    rw [tf_mx_0, hid] at h0
    exact h0

