def tX11_refuse : tf_T := [(0, .aload_n 0, 1, 0, 0),
  (1, .getfield 7, 4, 0, 0),
  (4, .iload_n 1, 5, 0, 0),
  (5, .ineg, 6, 0, 0),
  (6, .dup2, 7, 0, 0),
  (7, .iaload, 8, 0, 0),
  (8, .iconst 1, 9, 0, 1),
  (9, .iadd, 10, 0, 0),
  (10, .iastore, 11, 0, 0),
  (11, .iload_n 1, 12, 0, 0),
  (12, .ireturn, 13, 0, 0)]
set_option maxRecDepth 100000 in
theorem okX11_refuse : tf_okT cX11_refuse tX11_refuse := by unfold tf_okT; decide +kernel
theorem ftX11_refuse : 1 ≤ 1 ∧ tf_okF RX11 fX11 ∧ tf_okT cX11_refuse tX11_refuse := ⟨by decide, okfX11, okX11_refuse⟩
def mX11_refuse : tf_M := (yX11_refuse, cX11_refuse, 2, (some .int))

def tX11_sizeOf : tf_T := [(0, .iload_n 1, 1, 0, 0),
  (1, .ifCond .ge 7, 4, 8, 0),
  (4, .iconst 1, 5, 0, 1),
  (5, .goto 16, 8, 21, 0),
  (8, .aload_n 0, 9, 0, 0),
  (9, .getfield 13, 12, 0, 0),
  (12, .sipush 224, 15, 0, 224),
  (15, .bipush 10, 17, 0, 10),
  (17, .iload_n 1, 18, 0, 0),
  (18, .imul, 19, 0, 0),
  (19, .iadd, 20, 0, 0),
  (20, .iaload, 21, 0, 0),
  (21, .ireturn, 22, 0, 0)]
set_option maxRecDepth 100000 in
theorem okX11_sizeOf : tf_okT cX11_sizeOf tX11_sizeOf := by unfold tf_okT; decide +kernel
theorem ftX11_sizeOf : 1 ≤ 1 ∧ tf_okF RX11 fX11 ∧ tf_okT cX11_sizeOf tX11_sizeOf := ⟨by decide, okfX11, okX11_sizeOf⟩
def mX11_sizeOf : tf_M := (yX11_sizeOf, cX11_sizeOf, 2, (some .int))

def tX11_stands : tf_T := [(0, .sipush 224, 3, 0, 224),
  (3, .bipush 10, 5, 0, 10),
  (5, .iload_n 1, 6, 0, 0),
  (6, .imul, 7, 0, 0),
  (7, .iadd, 8, 0, 0),
  (8, .istore_n 3, 9, 0, 0),
  (9, .aload_n 0, 10, 0, 0),
  (10, .getfield 13, 13, 0, 0),
  (13, .iload_n 3, 14, 0, 0),
  (14, .iconst 1, 15, 0, 1),
  (15, .iadd, 16, 0, 0),
  (16, .iaload, 17, 0, 0),
  (17, .iconst 3, 18, 0, 3),
  (18, .if_icmp .lt 22, 21, 40, 0),
  (21, .iload_n 2, 22, 0, 0),
  (22, .aload_n 0, 23, 0, 0),
  (23, .getfield 13, 26, 0, 0),
  (26, .iload_n 3, 27, 0, 0),
  (27, .iaload, 28, 0, 0),
  (28, .iadd, 29, 0, 0),
  (29, .aload_n 0, 30, 0, 0),
  (30, .getfield 13, 33, 0, 0),
  (33, .sipush 364, 36, 0, 364),
  (36, .iaload, 37, 0, 0),
  (37, .if_icmp .le 5, 40, 42, 0),
  (40, .iconst 0, 41, 0, 0),
  (41, .ireturn, 42, 0, 0),
  (42, .iconst 0, 43, 0, 0),
  (43, .istore 4, 45, 0, 0),
  (45, .iload 4, 47, 0, 0),
  (47, .aload_n 0, 48, 0, 0),
  (48, .getfield 13, 51, 0, 0),
  (51, .iload_n 3, 52, 0, 0),
  (52, .iaload, 53, 0, 0),
  (53, .if_icmp .ge 38, 56, 91, 0),
  (56, .aload_n 0, 57, 0, 0),
  (57, .getfield 13, 60, 0, 0),
  (60, .sipush 144, 63, 0, 144),
  (63, .iload_n 2, 64, 0, 0),
  (64, .iadd, 65, 0, 0),
  (65, .iload 4, 67, 0, 0),
  (67, .iadd, 68, 0, 0),
  (68, .iaload, 69, 0, 0),
  (69, .aload_n 0, 70, 0, 0),
  (70, .getfield 13, 73, 0, 0),
  (73, .iload_n 3, 74, 0, 0),
  (74, .iconst 2, 75, 0, 2),
  (75, .iadd, 76, 0, 0),
  (76, .iload 4, 78, 0, 0),
  (78, .iadd, 79, 0, 0),
  (79, .iaload, 80, 0, 0),
  (80, .if_icmp .eq 5, 83, 85, 0),
  (83, .iconst 0, 84, 0, 0),
  (84, .ireturn, 85, 0, 0),
  (85, .iinc 4 1, 88, 0, 1),
  (88, .goto (-43), 91, 45, 0),
  (91, .iconst 1, 92, 0, 1),
  (92, .ireturn, 93, 0, 0)]
set_option maxRecDepth 100000 in
theorem okX11_stands : tf_okT cX11_stands tX11_stands := by unfold tf_okT; decide +kernel
theorem ftX11_stands : 1 ≤ 1 ∧ tf_okF RX11 fX11 ∧ tf_okT cX11_stands tX11_stands := ⟨by decide, okfX11, okX11_stands⟩
def mX11_stands : tf_M := (yX11_stands, cX11_stands, 5, (some .boolean))

def tX11_wordAt : tf_T := [(0, .bipush (-9), 2, 0, (-9)),
  (2, .istore_n 2, 3, 0, 0),
  (3, .iconst 0, 4, 0, 0),
  (4, .istore_n 3, 5, 0, 0),
  (5, .iload_n 3, 6, 0, 0),
  (6, .aload_n 0, 7, 0, 0),
  (7, .getfield 13, 10, 0, 0),
  (10, .sipush 366, 13, 0, 366),
  (13, .iaload, 14, 0, 0),
  (14, .if_icmp .ge 37, 17, 51, 0),
  (17, .aload_n 0, 18, 0, 0),
  (18, .iload_n 3, 19, 0, 0),
  (19, .iload_n 1, 20, 0, 0),
  (20, .invokevirtual 80, 23, 0, 0),
  (23, .ifCond .eq 22, 26, 45, 0),
  (26, .iload_n 2, 27, 0, 0),
  (27, .ifCond .lt 16, 30, 43, 0),
  (30, .aload_n 0, 31, 0, 0),
  (31, .iload_n 3, 32, 0, 0),
  (32, .invokevirtual 83, 35, 0, 0),
  (35, .aload_n 0, 36, 0, 0),
  (36, .iload_n 2, 37, 0, 0),
  (37, .invokevirtual 83, 40, 0, 0),
  (40, .if_icmp .le 5, 43, 45, 0),
  (43, .iload_n 3, 44, 0, 0),
  (44, .istore_n 2, 45, 0, 0),
  (45, .iinc 3 1, 48, 0, 1),
  (48, .goto (-43), 51, 5, 0),
  (51, .iload_n 2, 52, 0, 0),
  (52, .ireturn, 53, 0, 0)]
set_option maxRecDepth 100000 in
theorem okX11_wordAt : tf_okT cX11_wordAt tX11_wordAt := by unfold tf_okT; decide +kernel
theorem ftX11_wordAt : 1 ≤ 2 ∧ tf_okF RX11 fX11 ∧ tf_okT cX11_wordAt tX11_wordAt := ⟨by decide, okfX11, okX11_wordAt⟩
def mX11_wordAt : tf_M := (yX11_wordAt, cX11_wordAt, 4, (some .int))

def tX11_pieces : tf_T := [(0, .iconst 0, 1, 0, 0),
  (1, .istore_n 1, 2, 0, 0),
  (2, .iconst 0, 3, 0, 0),
  (3, .istore_n 2, 4, 0, 0),
  (4, .iload_n 2, 5, 0, 0),
  (5, .aload_n 0, 6, 0, 0),
  (6, .getfield 13, 9, 0, 0),
  (9, .sipush 364, 12, 0, 364),
  (12, .iaload, 13, 0, 0),
  (13, .if_icmp .ge 21, 16, 34, 0),
  (16, .iinc 1 1, 19, 0, 1),
  (19, .iload_n 2, 20, 0, 0),
  (20, .aload_n 0, 21, 0, 0),
  (21, .aload_n 0, 22, 0, 0),
  (22, .iload_n 2, 23, 0, 0),
  (23, .invokevirtual 86, 26, 0, 0),
  (26, .invokevirtual 83, 29, 0, 0),
  (29, .iadd, 30, 0, 0),
  (30, .istore_n 2, 31, 0, 0),
  (31, .goto (-27), 34, 4, 0),
  (34, .iload_n 1, 35, 0, 0),
  (35, .ireturn, 36, 0, 0)]
set_option maxRecDepth 100000 in
theorem okX11_pieces : tf_okT cX11_pieces tX11_pieces := by unfold tf_okT; decide +kernel
theorem ftX11_pieces : 1 ≤ 3 ∧ tf_okF RX11 fX11 ∧ tf_okT cX11_pieces tX11_pieces := ⟨by decide, okfX11, okX11_pieces⟩
def mX11_pieces : tf_M := (yX11_pieces, cX11_pieces, 3, (some .int))

def tX11_gapAt : tf_T := [(0, .aload_n 0, 1, 0, 0),
  (1, .iload_n 2, 2, 0, 0),
  (2, .aload_n 0, 3, 0, 0),
  (3, .getfield 13, 6, 0, 0),
  (6, .sipush 144, 9, 0, 144),
  (9, .iload_n 3, 10, 0, 0),
  (10, .iadd, 11, 0, 0),
  (11, .iaload, 12, 0, 0),
  (12, .invokevirtual 51, 15, 0, 0),
  (15, .istore 5, 17, 0, 0),
  (17, .iload 5, 19, 0, 0),
  (19, .ifCond .ge 7, 22, 26, 0),
  (22, .sipush 999, 25, 0, 999),
  (25, .ireturn, 26, 0, 0),
  (26, .iload_n 3, 27, 0, 0),
  (27, .ifCond .ne 8, 30, 35, 0),
  (30, .bipush (-9), 32, 0, (-9)),
  (32, .goto 20, 35, 52, 0),
  (35, .aload_n 0, 36, 0, 0),
  (36, .iload_n 2, 37, 0, 0),
  (37, .aload_n 0, 38, 0, 0),
  (38, .getfield 13, 41, 0, 0),
  (41, .sipush 144, 44, 0, 144),
  (44, .iload_n 3, 45, 0, 0),
  (45, .iadd, 46, 0, 0),
  (46, .iconst 1, 47, 0, 1),
  (47, .isub, 48, 0, 0),
  (48, .iaload, 49, 0, 0),
  (49, .invokevirtual 51, 52, 0, 0),
  (52, .istore 6, 54, 0, 0),
  (54, .iload 6, 56, 0, 0),
  (56, .ifCond .ge 18, 59, 74, 0),
  (59, .aload_n 0, 60, 0, 0),
  (60, .getfield 13, 63, 0, 0),
  (63, .bipush 120, 65, 0, 120),
  (65, .bipush 6, 67, 0, 6),
  (67, .iload_n 1, 68, 0, 0),
  (68, .imul, 69, 0, 0),
  (69, .iadd, 70, 0, 0),
  (70, .iaload, 71, 0, 0),
  (71, .goto 14, 74, 85, 0),
  (74, .aload_n 0, 75, 0, 0),
  (75, .iload_n 1, 76, 0, 0),
  (76, .iload 6, 78, 0, 0),
  (78, .iload 5, 80, 0, 0),
  (80, .iload 4, 82, 0, 0),
  (82, .invokevirtual 76, 85, 0, 0),
  (85, .ireturn, 86, 0, 0)]
set_option maxRecDepth 100000 in
theorem okX11_gapAt : tf_okT cX11_gapAt tX11_gapAt := by unfold tf_okT; decide +kernel
theorem ftX11_gapAt : 1 ≤ 4 ∧ tf_okF RX11 fX11 ∧ tf_okT cX11_gapAt tX11_gapAt := ⟨by decide, okfX11, okX11_gapAt⟩
def mX11_gapAt : tf_M := (yX11_gapAt, cX11_gapAt, 7, (some .int))

def tX11_piece : tf_T := [(0, .iload_n 2, 1, 0, 0),
  (1, .iconst 3, 2, 0, 3),
  (2, .invokestatic 22, 5, 0, 0),
  (5, .ifCond .ne 10, 8, 15, 0),
  (8, .aload_n 0, 9, 0, 0),
  (9, .bipush (-2), 11, 0, (-2)),
  (11, .invokevirtual 26, 14, 0, 0),
  (14, .ireturn, 15, 0, 0),
  (15, .iconst 0, 16, 0, 0),
  (16, .istore_n 3, 17, 0, 0),
  (17, .iconst 0, 18, 0, 0),
  (18, .istore 4, 20, 0, 0),
  (20, .iload 4, 22, 0, 0),
  (22, .aload_n 0, 23, 0, 0),
  (23, .getfield 13, 26, 0, 0),
  (26, .sipush 364, 29, 0, 364),
  (29, .iaload, 30, 0, 0),
  (30, .if_icmp .ge 63, 33, 93, 0),
  (33, .iload_n 3, 34, 0, 0),
  (34, .iload_n 1, 35, 0, 0),
  (35, .if_icmp .ne 37, 38, 72, 0),
  (38, .iload_n 2, 39, 0, 0),
  (39, .ifCond .ne 8, 42, 47, 0),
  (42, .iload 4, 44, 0, 0),
  (44, .goto 27, 47, 71, 0),
  (47, .iload_n 2, 48, 0, 0),
  (48, .iconst 1, 49, 0, 1),
  (49, .if_icmp .ne 16, 52, 65, 0),
  (52, .aload_n 0, 53, 0, 0),
  (53, .aload_n 0, 54, 0, 0),
  (54, .iload 4, 56, 0, 0),
  (56, .invokevirtual 86, 59, 0, 0),
  (59, .invokevirtual 83, 62, 0, 0),
  (62, .goto 9, 65, 71, 0),
  (65, .aload_n 0, 66, 0, 0),
  (66, .iload 4, 68, 0, 0),
  (68, .invokevirtual 86, 71, 0, 0),
  (71, .ireturn, 72, 0, 0),
  (72, .iinc 3 1, 75, 0, 1),
  (75, .iload 4, 77, 0, 0),
  (77, .aload_n 0, 78, 0, 0),
  (78, .aload_n 0, 79, 0, 0),
  (79, .iload 4, 81, 0, 0),
  (81, .invokevirtual 86, 84, 0, 0),
  (84, .invokevirtual 83, 87, 0, 0),
  (87, .iadd, 88, 0, 0),
  (88, .istore 4, 90, 0, 0),
  (90, .goto (-70), 93, 20, 0),
  (93, .bipush (-9), 95, 0, (-9)),
  (95, .ireturn, 96, 0, 0)]
set_option maxRecDepth 100000 in
theorem okX11_piece : tf_okT cX11_piece tX11_piece := by unfold tf_okT; decide +kernel
theorem ftX11_piece : 1 ≤ 3 ∧ tf_okF RX11 fX11 ∧ tf_okT cX11_piece tX11_piece := ⟨by decide, okfX11, okX11_piece⟩
def mX11_piece : tf_M := (yX11_piece, cX11_piece, 5, (some .int))

def tX11_timeOf : tf_T := [(0, .iconst 0, 1, 0, 0),
  (1, .istore 4, 3, 0, 0),
  (3, .iconst 0, 4, 0, 0),
  (4, .istore 5, 6, 0, 0),
  (6, .iload 5, 8, 0, 0),
  (8, .aload_n 0, 9, 0, 0),
  (9, .getfield 13, 12, 0, 0),
  (12, .sipush 364, 15, 0, 364),
  (15, .iaload, 16, 0, 0),
  (16, .if_icmp .ge 143, 19, 159, 0),
  (19, .aload_n 0, 20, 0, 0),
  (20, .iload 5, 22, 0, 0),
  (22, .invokevirtual 86, 25, 0, 0),
  (25, .istore 6, 27, 0, 0),
  (27, .aload_n 0, 28, 0, 0),
  (28, .iload 6, 30, 0, 0),
  (30, .invokevirtual 83, 33, 0, 0),
  (33, .istore 7, 35, 0, 0),
  (35, .bipush 100, 37, 0, 100),
  (37, .istore 8, 39, 0, 0),
  (39, .iload 6, 41, 0, 0),
  (41, .ifCond .lt 52, 44, 93, 0),
  (44, .iload 8, 46, 0, 0),
  (46, .iconst 5, 47, 0, 5),
  (47, .aload_n 0, 48, 0, 0),
  (48, .getfield 13, 51, 0, 0),
  (51, .sipush 224, 54, 0, 224),
  (54, .bipush 10, 56, 0, 10),
  (56, .iload 6, 58, 0, 0),
  (58, .imul, 59, 0, 0),
  (59, .iadd, 60, 0, 0),
  (60, .iconst 1, 61, 0, 1),
  (61, .iadd, 62, 0, 0),
  (62, .iaload, 63, 0, 0),
  (63, .bipush 10, 65, 0, 10),
  (65, .if_icmp .le 8, 68, 73, 0),
  (68, .bipush 10, 70, 0, 10),
  (70, .goto 19, 73, 89, 0),
  (73, .aload_n 0, 74, 0, 0),
  (74, .getfield 13, 77, 0, 0),
  (77, .sipush 224, 80, 0, 224),
  (80, .bipush 10, 82, 0, 10),
  (82, .iload 6, 84, 0, 0),
  (84, .imul, 85, 0, 0),
  (85, .iadd, 86, 0, 0),
  (86, .iconst 1, 87, 0, 1),
  (87, .iadd, 88, 0, 0),
  (88, .iaload, 89, 0, 0),
  (89, .imul, 90, 0, 0),
  (90, .isub, 91, 0, 0),
  (91, .istore 8, 93, 0, 0),
  (93, .iconst 0, 94, 0, 0),
  (94, .istore 9, 96, 0, 0),
  (96, .iload 9, 98, 0, 0),
  (98, .iload 7, 100, 0, 0),
  (100, .if_icmp .ge 49, 103, 149, 0),
  (103, .iload 4, 105, 0, 0),
  (105, .iload 9, 107, 0, 0),
  (107, .ifCond .ne 15, 110, 122, 0),
  (110, .aload_n 0, 111, 0, 0),
  (111, .iload_n 1, 112, 0, 0),
  (112, .iload_n 2, 113, 0, 0),
  (113, .iload 5, 115, 0, 0),
  (115, .iload_n 3, 116, 0, 0),
  (116, .invokevirtual 89, 119, 0, 0),
  (119, .goto 21, 122, 140, 0),
  (122, .aload_n 0, 123, 0, 0),
  (123, .iload_n 1, 124, 0, 0),
  (124, .iload_n 2, 125, 0, 0),
  (125, .iload 5, 127, 0, 0),
  (127, .iload 9, 129, 0, 0),
  (129, .iadd, 130, 0, 0),
  (130, .iload_n 3, 131, 0, 0),
  (131, .invokevirtual 89, 134, 0, 0),
  (134, .iload 8, 136, 0, 0),
  (136, .imul, 137, 0, 0),
  (137, .bipush 100, 139, 0, 100),
  (139, .idiv, 140, 0, 0),
  (140, .iadd, 141, 0, 0),
  (141, .istore 4, 143, 0, 0),
  (143, .iinc 9 1, 146, 0, 1),
  (146, .goto (-50), 149, 96, 0),
  (149, .iload 5, 151, 0, 0),
  (151, .iload 7, 153, 0, 0),
  (153, .iadd, 154, 0, 0),
  (154, .istore 5, 156, 0, 0),
  (156, .goto (-150), 159, 6, 0),
  (159, .iload 4, 161, 0, 0),
  (161, .ireturn, 162, 0, 0)]
set_option maxRecDepth 100000 in
theorem okX11_timeOf : tf_okT cX11_timeOf tX11_timeOf := by unfold tf_okT; decide +kernel
theorem ftX11_timeOf : 1 ≤ 5 ∧ tf_okF RX11 fX11 ∧ tf_okT cX11_timeOf tX11_timeOf := ⟨by decide, okfX11, okX11_timeOf⟩
def mX11_timeOf : tf_M := (yX11_timeOf, cX11_timeOf, 10, (some .int))

set_option maxRecDepth 100000 in
theorem lX11_26 : tf_okV RX11 26 1 8 mX11_refuse := by unfold tf_okV tf_okL; decide +kernel

set_option maxRecDepth 100000 in
theorem lX11_51 : tf_okV RX11 51 2 8 mX11_keyAt := by unfold tf_okV tf_okL; decide +kernel

set_option maxRecDepth 100000 in
theorem lX11_76 : tf_okV RX11 76 4 8 mX11_gapOf := by unfold tf_okV tf_okL; decide +kernel

set_option maxRecDepth 100000 in
theorem lX11_80 : tf_okV RX11 80 2 8 mX11_stands := by unfold tf_okV tf_okL; decide +kernel

set_option maxRecDepth 100000 in
theorem lX11_83 : tf_okV RX11 83 1 8 mX11_sizeOf := by unfold tf_okV tf_okL; decide +kernel

set_option maxRecDepth 100000 in
theorem lX11_86 : tf_okV RX11 86 1 8 mX11_wordAt := by unfold tf_okV tf_okL; decide +kernel

set_option maxRecDepth 100000 in
theorem lX11_89 : tf_okV RX11 89 4 8 mX11_gapAt := by unfold tf_okV tf_okL; decide +kernel

set_option maxHeartbeats 1000000 in
theorem m_refuse {G : tf_G} {S : tf_Sg} {o : Nat} (c : Int32) (ho : tf_mo G o) (hc : vp_in (-c) 7) : tf_Fn mX11_refuse 1 0 0 G S [.ref o, .int c] G (tf_set S (tf_rf G o 0) (-c).toNatClampNeg (S (tf_rf G o 0) (-c).toNatClampNeg + 1)) (some (.int c)) := by
  obtain ⟨h1, ⟨r0, t0, n0⟩, ⟨r1, t1, n1⟩, ⟨r2, t2, n2⟩, ⟨r4, t4, n4⟩⟩ := id ho
  refine tf_Fn_of (own := RX11) false ⟨by decide, rfl, by decide⟩ (Nat.le_of_ble_eq_true rfl) trivial (fun x hx hR => ?_)
  show tf_K x 0 0 G S 0 [some (.ref o), some (.int c)] []
  have h6 : vp_in (-c) (tf_ln G (tf_rf G o 0)) := by rw [n0]; exact hc
  refine tf_go hx ftX11_refuse 10 [] 12 [some (.ref o), some (.int c)] [.int c] (tf_set S (tf_rf G o 0) (Int32.toNatClampNeg (-c)) ((S (tf_rf G o 0) (Int32.toNatClampNeg (-c))) + 1)) rfl ⟨by decide, by decide, rfl⟩ ⟨⟨⟨trivial, ⟨by first | assumption | rfl | decide | omega, by first | assumption | rfl | decide | omega⟩⟩, ⟨Or.inl (by first | assumption | rfl | decide | omega), by first | assumption | rfl | decide | omega⟩⟩, ⟨by first | assumption | rfl | decide | omega, by first | assumption | rfl | decide | omega⟩⟩ ?_
  exact tf_ret ftX11_refuse hR rfl ⟨by decide, by decide⟩ rfl rfl rfl

set_option maxHeartbeats 1000000 in
theorem m_sizeOf {G : tf_G} {S : tf_Sg} {o : Nat} {f : Nat → Nat} (w : Nat) (ho : tf_mo G o) (hf : tf_sf G S o f) : tf_Fn mX11_sizeOf 1 0 0 G S [.ref o, .int (tf_on 10 w)] G S (some (.int (nI (tf_sz f w)))) := by
  obtain ⟨h1, ⟨r0, t0, n0⟩, ⟨r1, t1, n1⟩, ⟨r2, t2, n2⟩, ⟨r4, t4, n4⟩⟩ := id ho
  obtain ⟨hs, hb⟩ := id hf
  refine tf_Fn_of (own := RX11) false ⟨by decide, rfl, by decide⟩ (Nat.le_of_ble_eq_true rfl) trivial (fun x hx hR => ?_)
  show tf_K x 0 0 G S 0 [some (.ref o), some (.int (tf_on 10 w))] []
  unfold tf_sz at hR
  by_cases c1 : w < 10
  · rw [tf_on_y c1]
    refine tf_go hx ftX11_sizeOf 10 [true] 21 [some (.ref o), some (.int (nI w))] [.int (S (tf_rf G o 1) (Int32.toNatClampNeg (224 + (10 * (nI w)))))] S rfl ⟨by decide, by decide, rfl⟩ ⟨⟨⟨trivial, (tf_leT (a := 0) (b := w) (rfl : (0 : Int32) = nI 0) rfl (by omega) (by omega) (by omega))⟩, ⟨by first | assumption | rfl | decide | omega, by first | assumption | rfl | decide | omega⟩⟩, ⟨Or.inl (by first | assumption | rfl | decide | omega), by first | assumption | exact tf_in (n := (224 + (10 * w))) (tf_add (rfl : (224 : Int32) = nI 224) (tf_mul (rfl : (10 : Int32) = nI 10) rfl)) (by first | assumption | rfl) (by omega) (by decide)⟩⟩ ?_
    rw [show (S (tf_rf G o 1) (Int32.toNatClampNeg (224 + (10 * (nI w))))) = nI (f (224 + (10 * w))) from (tf_rd hs (tf_add (rfl : (224 : Int32) = nI 224) (tf_mul (rfl : (10 : Int32) = nI 10) rfl)) (by omega))]
    exact tf_ret ftX11_sizeOf hR rfl ⟨by decide, by decide⟩ rfl rfl (by rw [if_pos c1]; rfl)
  · rw [tf_on_n c1]
    refine tf_go hx ftX11_sizeOf 4 [false] 21 [some (.ref o), some (.int (-9))] [.int 1] S rfl ⟨by decide, by decide, rfl⟩ ⟨trivial, (by decide)⟩ ?_
    exact tf_ret ftX11_sizeOf hR rfl ⟨by decide, by decide⟩ rfl rfl (by rw [if_neg c1]; rfl)

set_option maxHeartbeats 1000000 in
theorem m_stands {G : tf_G} {S : tf_Sg} {o : Nat} {f : Nat → Nat} (w i : Nat) (ho : tf_mo G o) (hf : tf_sf G S o f) (hg : tf_gd f) (hw : w < f 366) (hi : i < 41) : tf_Fn mX11_stands 1 0 0 G S [.ref o, .int (nI w), .int (nI i)] G S (some (.int (if tf_sd f w i = true then 1 else 0))) := by
  obtain ⟨h1, ⟨r0, t0, n0⟩, ⟨r1, t1, n1⟩, ⟨r2, t2, n2⟩, ⟨r4, t4, n4⟩⟩ := id ho
  obtain ⟨hs, hb⟩ := id hf
  obtain ⟨⟨g1, g2, g3, g4⟩, g5, g6, g7, g8, g9, g10, g11⟩ := id hg
  refine tf_Fn_of (own := RX11) false ⟨by decide, rfl, by decide⟩ (Nat.le_of_ble_eq_true rfl) (by show (if _ then (1 : Int32) else 0) = 0 ∨ _; split; exact Or.inr rfl; exact Or.inl rfl) (fun x hx hR => ?_)
  show tf_K x 0 0 G S 0 [some (.ref o), some (.int (nI w)), some (.int (nI i)), none, none] []
  have q1 := (g5 w hw).2
  refine tf_go hx ftX11_stands 6 [] 9 [some (.ref o), some (.int (nI w)), some (.int (nI i)), some (.int (224 + (10 * (nI w)))), none] [] S rfl ⟨by decide, by decide, rfl⟩ trivial ?_
  rw [show (224 + (10 * (nI w))) = nI (224 + (10 * w)) from (tf_add (rfl : (224 : Int32) = nI 224) (tf_mul (rfl : (10 : Int32) = nI 10) rfl))]
  refine tf_go hx ftX11_stands 7 [] 18 [some (.ref o), some (.int (nI w)), some (.int (nI i)), some (.int (nI (224 + (10 * w)))), none] [.int 3, .int (S (tf_rf G o 1) (Int32.toNatClampNeg ((nI (224 + (10 * w))) + 1)))] S rfl ⟨by decide, by decide, rfl⟩ ⟨⟨trivial, ⟨by first | assumption | rfl | decide | omega, by first | assumption | rfl | decide | omega⟩⟩, ⟨Or.inl (by first | assumption | rfl | decide | omega), by first | assumption | exact tf_in (n := ((224 + (10 * w)) + 1)) (tf_add rfl (rfl : (1 : Int32) = nI 1)) (by first | assumption | rfl) (by omega) (by decide)⟩⟩ ?_
  rw [show (S (tf_rf G o 1) (Int32.toNatClampNeg ((nI (224 + (10 * w))) + 1))) = nI (f ((224 + (10 * w)) + 1)) from (tf_rd hs (tf_add rfl (rfl : (1 : Int32) = nI 1)) (by omega))]
  by_cases c1 : f (224 + 10 * w + 1) < 3
  · refine tf_go hx ftX11_stands 2 [true] 41 [some (.ref o), some (.int (nI w)), some (.int (nI i)), some (.int (nI (224 + (10 * w)))), none] [.int 0] S rfl ⟨by decide, by decide, rfl⟩ ⟨trivial, (tf_ltT (a := (f ((224 + (10 * w)) + 1))) (b := 3) rfl (rfl : (3 : Int32) = nI 3) (by have := hb ((224 + (10 * w)) + 1); omega) (by have := hb ((224 + (10 * w)) + 1); omega) (by have := hb ((224 + (10 * w)) + 1); omega))⟩ ?_
    exact tf_ret ftX11_stands hR rfl ⟨by decide, by decide⟩ rfl rfl (by rw [if_neg (by unfold tf_sd; simp; omega)]; rfl)
  · refine tf_go hx ftX11_stands 1 [false] 21 [some (.ref o), some (.int (nI w)), some (.int (nI i)), some (.int (nI (224 + (10 * w)))), none] [] S rfl ⟨by decide, by decide, rfl⟩ ⟨trivial, (tf_ltF (a := (f ((224 + (10 * w)) + 1))) (b := 3) rfl (rfl : (3 : Int32) = nI 3) (by have := hb ((224 + (10 * w)) + 1); omega) (by have := hb ((224 + (10 * w)) + 1); omega) (by have := hb ((224 + (10 * w)) + 1); omega))⟩ ?_
    refine tf_go hx ftX11_stands 10 [] 37 [some (.ref o), some (.int (nI w)), some (.int (nI i)), some (.int (nI (224 + (10 * w)))), none] [.int (S (tf_rf G o 1) (Int32.toNatClampNeg 364)), .int ((nI i) + (S (tf_rf G o 1) (Int32.toNatClampNeg (nI (224 + (10 * w))))))] S rfl ⟨by decide, by decide, rfl⟩ ⟨⟨⟨⟨trivial, ⟨by first | assumption | rfl | decide | omega, by first | assumption | rfl | decide | omega⟩⟩, ⟨Or.inl (by first | assumption | rfl | decide | omega), by first | assumption | exact tf_in (n := (224 + (10 * w))) rfl (by first | assumption | rfl) (by omega) (by decide)⟩⟩, ⟨by first | assumption | rfl | decide | omega, by first | assumption | rfl | decide | omega⟩⟩, ⟨Or.inl (by first | assumption | rfl | decide | omega), by first | assumption | exact tf_in (n := 364) (rfl : (364 : Int32) = nI 364) (by first | assumption | rfl) (by omega) (by decide)⟩⟩ ?_
    rw [show (S (tf_rf G o 1) (Int32.toNatClampNeg 364)) = nI (f 364) from (tf_rd hs (rfl : (364 : Int32) = nI 364) (by omega))]
    rw [show ((nI i) + (S (tf_rf G o 1) (Int32.toNatClampNeg (nI (224 + (10 * w)))))) = nI (i + (f (224 + (10 * w)))) from (tf_add rfl (tf_rd hs rfl (by omega)))]
    by_cases c2 : f 364 < i + f (224 + 10 * w)
    · refine tf_go hx ftX11_stands 2 [false] 41 [some (.ref o), some (.int (nI w)), some (.int (nI i)), some (.int (nI (224 + (10 * w)))), none] [.int 0] S rfl ⟨by decide, by decide, rfl⟩ ⟨trivial, (tf_leF (a := (i + (f (224 + (10 * w))))) (b := (f 364)) rfl rfl (by have := hb (224 + (10 * w)); have := hb 364; omega) (by have := hb (224 + (10 * w)); have := hb 364; omega) (by have := hb (224 + (10 * w)); have := hb 364; omega))⟩ ?_
      exact tf_ret ftX11_stands hR rfl ⟨by decide, by decide⟩ rfl rfl (by rw [if_neg (by unfold tf_sd; simp; omega)]; rfl)
    · refine tf_go hx ftX11_stands 3 [true] 45 [some (.ref o), some (.int (nI w)), some (.int (nI i)), some (.int (nI (224 + (10 * w)))), some (.int 0)] [] S rfl ⟨by decide, by decide, rfl⟩ ⟨trivial, (tf_leT (a := (i + (f (224 + (10 * w))))) (b := (f 364)) rfl rfl (by have := hb (224 + (10 * w)); have := hb 364; omega) (by have := hb (224 + (10 * w)); have := hb 364; omega) (by have := hb (224 + (10 * w)); have := hb 364; omega))⟩ ?_
      have loop : ∀ (m k : Nat), k + m = f (224 + 10 * w) → (tf_fst (fun k => !(f (144 + i + k) == f (224 + 10 * w + 2 + k))) m k = tf_fst (fun k => !(f (144 + i + k) == f (224 + 10 * w + 2 + k))) (f (224 + 10 * w)) 0) → tf_K x 0 0 G S 45 [some (.ref o), some (.int (nI w)), some (.int (nI i)), some (.int (nI (224 + 10 * w))), some (.int (nI k))] [] := by
        intro m
        induction m with
        | zero =>
          intro k hk he
          refine tf_go hx ftX11_stands 5 [] 53 [some (.ref o), some (.int (nI w)), some (.int (nI i)), some (.int (nI (224 + 10 * w))), some (.int (nI k))] [.int (S (tf_rf G o 1) (Int32.toNatClampNeg (nI (224 + 10 * w)))), .int (nI k)] S rfl ⟨by decide, by decide, rfl⟩ ⟨⟨trivial, ⟨by first | assumption | rfl | decide | omega, by first | assumption | rfl | decide | omega⟩⟩, ⟨Or.inl (by first | assumption | rfl | decide | omega), by first | assumption | exact tf_in (n := (224 + 10 * w)) rfl (by first | assumption | rfl) (by omega) (by decide)⟩⟩ ?_
          rw [show (S (tf_rf G o 1) (Int32.toNatClampNeg (nI (224 + 10 * w)))) = nI (f (224 + 10 * w)) from (tf_rd hs rfl (by omega))]
          refine tf_go hx ftX11_stands 2 [true] 92 [some (.ref o), some (.int (nI w)), some (.int (nI i)), some (.int (nI (224 + 10 * w))), some (.int (nI k))] [.int 1] S rfl ⟨by decide, by decide, rfl⟩ ⟨trivial, (tf_leT (a := (f (224 + 10 * w))) (b := k) rfl rfl (by have := hb (224 + 10 * w); omega) (by have := hb (224 + 10 * w); omega) (by have := hb (224 + 10 * w); omega))⟩ ?_
          exact tf_ret ftX11_stands hR rfl ⟨by decide, by decide⟩ rfl rfl (by rw [if_pos (by rw [tf_fst_0] at he; unfold tf_sd; simp only [Bool.and_eq_true, decide_eq_true_eq]; omega)]; rfl)
        | succ m ih =>
          intro k hk he
          refine tf_go hx ftX11_stands 5 [] 53 [some (.ref o), some (.int (nI w)), some (.int (nI i)), some (.int (nI (224 + 10 * w))), some (.int (nI k))] [.int (S (tf_rf G o 1) (Int32.toNatClampNeg (nI (224 + 10 * w)))), .int (nI k)] S rfl ⟨by decide, by decide, rfl⟩ ⟨⟨trivial, ⟨by first | assumption | rfl | decide | omega, by first | assumption | rfl | decide | omega⟩⟩, ⟨Or.inl (by first | assumption | rfl | decide | omega), by first | assumption | exact tf_in (n := (224 + 10 * w)) rfl (by first | assumption | rfl) (by omega) (by decide)⟩⟩ ?_
          rw [show (S (tf_rf G o 1) (Int32.toNatClampNeg (nI (224 + 10 * w)))) = nI (f (224 + 10 * w)) from (tf_rd hs rfl (by omega))]
          refine tf_go hx ftX11_stands 1 [false] 56 [some (.ref o), some (.int (nI w)), some (.int (nI i)), some (.int (nI (224 + 10 * w))), some (.int (nI k))] [] S rfl ⟨by decide, by decide, rfl⟩ ⟨trivial, (tf_leF (a := (f (224 + 10 * w))) (b := k) rfl rfl (by have := hb (224 + 10 * w); omega) (by have := hb (224 + 10 * w); omega) (by have := hb (224 + 10 * w); omega))⟩ ?_
          refine tf_go hx ftX11_stands 15 [] 79 [some (.ref o), some (.int (nI w)), some (.int (nI i)), some (.int (nI (224 + 10 * w))), some (.int (nI k))] [.int (((nI (224 + 10 * w)) + 2) + (nI k)), .ref (tf_rf G o 1), .int (S (tf_rf G o 1) (Int32.toNatClampNeg ((144 + (nI i)) + (nI k))))] S rfl ⟨by decide, by decide, rfl⟩ ⟨⟨⟨trivial, ⟨by first | assumption | rfl | decide | omega, by first | assumption | rfl | decide | omega⟩⟩, ⟨Or.inl (by first | assumption | rfl | decide | omega), by first | assumption | exact tf_in (n := ((144 + i) + k)) (tf_add (tf_add (rfl : (144 : Int32) = nI 144) rfl) rfl) (by first | assumption | rfl) (by omega) (by decide)⟩⟩, ⟨by first | assumption | rfl | decide | omega, by first | assumption | rfl | decide | omega⟩⟩ ?_
          rw [show (((nI (224 + 10 * w)) + 2) + (nI k)) = nI (((224 + 10 * w) + 2) + k) from (tf_add (tf_add rfl (rfl : (2 : Int32) = nI 2)) rfl)]
          rw [show (S (tf_rf G o 1) (Int32.toNatClampNeg ((144 + (nI i)) + (nI k)))) = nI (f ((144 + i) + k)) from (tf_rd hs (tf_add (tf_add (rfl : (144 : Int32) = nI 144) rfl) rfl) (by omega))]
          by_cases c3 : f (144 + i + k) = f (224 + 10 * w + 2 + k)
          · refine tf_go hx ftX11_stands 4 [true] 45 [some (.ref o), some (.int (nI w)), some (.int (nI i)), some (.int (nI (224 + 10 * w))), some (.int ((nI k) + 1))] [] S rfl ⟨by decide, by decide, rfl⟩ ⟨⟨trivial, ⟨Or.inl (by first | assumption | rfl | decide | omega), by first | assumption | exact tf_in (n := (((224 + 10 * w) + 2) + k)) rfl (by first | assumption | rfl) (by omega) (by decide)⟩⟩, (tf_eqT (a := (f ((144 + i) + k))) (b := (f (((224 + 10 * w) + 2) + k))) rfl (tf_rd hs rfl (by omega)) (by have := hb ((144 + i) + k); have := hb (((224 + 10 * w) + 2) + k); omega))⟩ ?_
            rw [show ((nI k) + 1) = nI (k + 1) from (tf_add rfl (rfl : (1 : Int32) = nI 1))]
            exact ih (k + 1) (by omega) (by rw [← he, tf_fst_n (by simpa using c3)])
          · refine tf_go hx ftX11_stands 3 [false] 84 [some (.ref o), some (.int (nI w)), some (.int (nI i)), some (.int (nI (224 + 10 * w))), some (.int (nI k))] [.int 0] S rfl ⟨by decide, by decide, rfl⟩ ⟨⟨trivial, ⟨Or.inl (by first | assumption | rfl | decide | omega), by first | assumption | exact tf_in (n := (((224 + 10 * w) + 2) + k)) rfl (by first | assumption | rfl) (by omega) (by decide)⟩⟩, (tf_eqF (a := (f ((144 + i) + k))) (b := (f (((224 + 10 * w) + 2) + k))) rfl (tf_rd hs rfl (by omega)) (by have := hb ((144 + i) + k); have := hb (((224 + 10 * w) + 2) + k); omega) (by have := hb ((144 + i) + k); have := hb (((224 + 10 * w) + 2) + k); omega) (by have := hb ((144 + i) + k); have := hb (((224 + 10 * w) + 2) + k); omega))⟩ ?_
            exact tf_ret ftX11_stands hR rfl ⟨by decide, by decide⟩ rfl rfl (by rw [if_neg (by rw [tf_fst_y (by simpa using c3)] at he; unfold tf_sd; simp only [Bool.and_eq_true, decide_eq_true_eq]; omega)]; rfl)
      exact loop (f (224 + 10 * w)) 0 (by omega) rfl

set_option maxHeartbeats 1000000 in
theorem m_wordAt {G : tf_G} {S : tf_Sg} {o : Nat} {f : Nat → Nat} (i : Nat) (ho : tf_mo G o) (hf : tf_sf G S o f) (hg : tf_gd f) (hi : i < 41) : tf_Fn mX11_wordAt 2 0 0 G S [.ref o, .int (nI i)] G S (some (.int (tf_on 10 (tf_wd f i)))) := by
  obtain ⟨h1, ⟨r0, t0, n0⟩, ⟨r1, t1, n1⟩, ⟨r2, t2, n2⟩, ⟨r4, t4, n4⟩⟩ := id ho
  obtain ⟨hs, hb⟩ := id hf
  obtain ⟨⟨g1, g2, g3, g4⟩, g5, g6, g7, g8, g9, g10, g11⟩ := id hg
  refine tf_Fn_of (own := RX11) false ⟨by decide, rfl, by decide⟩ (Nat.le_of_ble_eq_true rfl) trivial (fun x hx hR => ?_)
  show tf_K x 0 0 G S 0 [some (.ref o), some (.int (nI i)), none, none] []
  unfold tf_wd at hR
  refine tf_go hx ftX11_wordAt 4 [] 5 [some (.ref o), some (.int (nI i)), some (.int (-9)), some (.int 0)] [] S rfl ⟨by decide, by decide, rfl⟩ trivial ?_
  have loop : ∀ (m k : Nat) (best : Nat), k + m = f 366 → (tf_wl f i m k best = tf_wl f i (f 366) 0 10) → (best = 10 ∨ best < f 366) → tf_K x 0 0 G S 5 [some (.ref o), some (.int (nI i)), some (.int (tf_on 10 best)), some (.int (nI k))] [] := by
    intro m
    induction m with
    | zero =>
      intro k best hk he hbe
      refine tf_go hx ftX11_wordAt 5 [] 14 [some (.ref o), some (.int (nI i)), some (.int (tf_on 10 best)), some (.int (nI k))] [.int (S (tf_rf G o 1) (Int32.toNatClampNeg 366)), .int (nI k)] S rfl ⟨by decide, by decide, rfl⟩ ⟨⟨trivial, ⟨by first | assumption | rfl | decide | omega, by first | assumption | rfl | decide | omega⟩⟩, ⟨Or.inl (by first | assumption | rfl | decide | omega), by first | assumption | exact tf_in (n := 366) (rfl : (366 : Int32) = nI 366) (by first | assumption | rfl) (by omega) (by decide)⟩⟩ ?_
      rw [show (S (tf_rf G o 1) (Int32.toNatClampNeg 366)) = nI (f 366) from (tf_rd hs (rfl : (366 : Int32) = nI 366) (by omega))]
      refine tf_go hx ftX11_wordAt 2 [true] 52 [some (.ref o), some (.int (nI i)), some (.int (tf_on 10 best)), some (.int (nI k))] [.int (tf_on 10 best)] S rfl ⟨by decide, by decide, rfl⟩ ⟨trivial, (tf_leT (a := (f 366)) (b := k) rfl rfl (by have := hb 366; omega) (by have := hb 366; omega) (by have := hb 366; omega))⟩ ?_
      exact tf_ret ftX11_wordAt hR rfl ⟨by decide, by decide⟩ rfl rfl (by rw [← he]; rfl)
    | succ m ih =>
      intro k best hk he hbe
      refine tf_go hx ftX11_wordAt 5 [] 14 [some (.ref o), some (.int (nI i)), some (.int (tf_on 10 best)), some (.int (nI k))] [.int (S (tf_rf G o 1) (Int32.toNatClampNeg 366)), .int (nI k)] S rfl ⟨by decide, by decide, rfl⟩ ⟨⟨trivial, ⟨by first | assumption | rfl | decide | omega, by first | assumption | rfl | decide | omega⟩⟩, ⟨Or.inl (by first | assumption | rfl | decide | omega), by first | assumption | exact tf_in (n := 366) (rfl : (366 : Int32) = nI 366) (by first | assumption | rfl) (by omega) (by decide)⟩⟩ ?_
      rw [show (S (tf_rf G o 1) (Int32.toNatClampNeg 366)) = nI (f 366) from (tf_rd hs (rfl : (366 : Int32) = nI 366) (by omega))]
      refine tf_go hx ftX11_wordAt 1 [false] 17 [some (.ref o), some (.int (nI i)), some (.int (tf_on 10 best)), some (.int (nI k))] [] S rfl ⟨by decide, by decide, rfl⟩ ⟨trivial, (tf_leF (a := (f 366)) (b := k) rfl rfl (by have := hb 366; omega) (by have := hb 366; omega) (by have := hb 366; omega))⟩ ?_
      refine tf_go hx ftX11_wordAt 3 [] 20 [some (.ref o), some (.int (nI i)), some (.int (tf_on 10 best)), some (.int (nI k))] [.int (nI i), .int (nI k), .ref o] S rfl ⟨by decide, by decide, rfl⟩ trivial ?_
      refine tf_cV hx ftX11_wordAt (nx := 23) (As := [.int (nI k), .int (nI i)]) (rest := []) (st2 := [.int (if tf_sd f k i = true then 1 else 0)]) (m_stands k i ho hf hg (by omega) hi) rfl lX11_80 (by first | assumption | rfl | decide) rfl ⟨rfl, by decide, by decide, by decide, rfl, rfl⟩ ?_
      rw [tf_wl_s] at he
      by_cases c1 : tf_sd f k i = true
      · rw [if_pos c1]
        refine tf_go hx ftX11_wordAt 1 [false] 26 [some (.ref o), some (.int (nI i)), some (.int (tf_on 10 best)), some (.int (nI k))] [] S rfl ⟨by decide, by decide, rfl⟩ ⟨trivial, (by decide)⟩ ?_
        refine tf_go hx ftX11_wordAt 1 [] 27 [some (.ref o), some (.int (nI i)), some (.int (tf_on 10 best)), some (.int (nI k))] [.int (tf_on 10 best)] S rfl ⟨by decide, by decide, rfl⟩ trivial ?_
        by_cases c2 : best < 10
        · rw [tf_on_y c2]
          refine tf_go hx ftX11_wordAt 1 [false] 30 [some (.ref o), some (.int (nI i)), some (.int (nI best)), some (.int (nI k))] [] S rfl ⟨by decide, by decide, rfl⟩ ⟨trivial, (tf_ltF (a := best) (b := 0) rfl (rfl : (0 : Int32) = nI 0) (by omega) (by omega) (by omega))⟩ ?_
          refine tf_go hx ftX11_wordAt 2 [] 32 [some (.ref o), some (.int (nI i)), some (.int (nI best)), some (.int (nI k))] [.int (nI k), .ref o] S rfl ⟨by decide, by decide, rfl⟩ trivial ?_
          refine tf_cV hx ftX11_wordAt (nx := 35) (As := [.int (nI k)]) (rest := []) (st2 := [.int (nI (tf_sz f k))]) ((by have h := m_sizeOf k ho hf; rw [tf_on_y (show k < 10 by omega)] at h; exact h)) rfl lX11_83 (by first | assumption | rfl | decide) rfl ⟨rfl, by decide, by decide, by decide, rfl, rfl⟩ ?_
          refine tf_go hx ftX11_wordAt 2 [] 37 [some (.ref o), some (.int (nI i)), some (.int (nI best)), some (.int (nI k))] [.int (nI best), .ref o, .int (nI (tf_sz f k))] S rfl ⟨by decide, by decide, rfl⟩ trivial ?_
          refine tf_cV hx ftX11_wordAt (nx := 40) (As := [.int (nI best)]) (rest := [.int (nI (tf_sz f k))]) (st2 := [.int (nI (tf_sz f best)), .int (nI (tf_sz f k))]) ((by have h := m_sizeOf best ho hf; rw [tf_on_y c2] at h; exact h)) rfl lX11_83 (by first | assumption | rfl | decide) rfl ⟨rfl, by decide, by decide, by decide, rfl, rfl⟩ ?_
          have s1 := tf_sz_le hg (w := k) (Or.inr (by omega))
          have s2 := tf_sz_le hg (w := best) (by omega)
          by_cases c3 : tf_sz f best < tf_sz f k
          · refine tf_go hx ftX11_wordAt 5 [false] 5 [some (.ref o), some (.int (nI i)), some (.int (nI k)), some (.int ((nI k) + 1))] [] S rfl ⟨by decide, by decide, rfl⟩ ⟨trivial, (tf_leF (a := (tf_sz f k)) (b := (tf_sz f best)) rfl rfl (by have := hb k; have := hb best; omega) (by have := hb k; have := hb best; omega) (by have := hb k; have := hb best; omega))⟩ ?_
            rw [show ((nI k) + 1) = nI (k + 1) from (tf_add rfl (rfl : (1 : Int32) = nI 1))]
            have h0 := ih (k + 1) k (by omega) (by rw [if_pos ⟨c1, Or.inr c3⟩] at he; exact he) (Or.inr (by omega))
            rw [tf_on_y (show k < 10 by omega)] at h0
            exact h0
          · refine tf_go hx ftX11_wordAt 3 [true] 5 [some (.ref o), some (.int (nI i)), some (.int (nI best)), some (.int ((nI k) + 1))] [] S rfl ⟨by decide, by decide, rfl⟩ ⟨trivial, (tf_leT (a := (tf_sz f k)) (b := (tf_sz f best)) rfl rfl (by have := hb k; have := hb best; omega) (by have := hb k; have := hb best; omega) (by have := hb k; have := hb best; omega))⟩ ?_
            rw [show ((nI k) + 1) = nI (k + 1) from (tf_add rfl (rfl : (1 : Int32) = nI 1))]
            have h0 := ih (k + 1) best (by omega) (by rw [if_neg (by rintro ⟨-, h⟩; omega)] at he; exact he) hbe
            rw [tf_on_y c2] at h0
            exact h0
        · rw [tf_on_n c2]
          refine tf_go hx ftX11_wordAt 5 [true] 5 [some (.ref o), some (.int (nI i)), some (.int (nI k)), some (.int ((nI k) + 1))] [] S rfl ⟨by decide, by decide, rfl⟩ ⟨trivial, (by decide)⟩ ?_
          rw [show ((nI k) + 1) = nI (k + 1) from (tf_add rfl (rfl : (1 : Int32) = nI 1))]
          have h0 := ih (k + 1) k (by omega) (by rw [if_pos ⟨c1, Or.inl (by omega)⟩] at he; exact he) (Or.inr (by omega))
          rw [tf_on_y (show k < 10 by omega)] at h0
          exact h0
      · rw [if_neg c1]
        refine tf_go hx ftX11_wordAt 3 [true] 5 [some (.ref o), some (.int (nI i)), some (.int (tf_on 10 best)), some (.int ((nI k) + 1))] [] S rfl ⟨by decide, by decide, rfl⟩ ⟨trivial, (tf_eqT (a := 0) (b := 0) (rfl : (0 : Int32) = nI 0) (rfl : (0 : Int32) = nI 0) (by omega))⟩ ?_
        rw [show ((nI k) + 1) = nI (k + 1) from (tf_add rfl (rfl : (1 : Int32) = nI 1))]
        exact ih (k + 1) best (by omega) (by rw [if_neg (by rintro ⟨h, -⟩; exact c1 h)] at he; exact he) hbe
  exact loop (f 366) 0 10 (by omega) rfl (Or.inl rfl)

set_option maxHeartbeats 1000000 in
theorem m_pieces {G : tf_G} {S : tf_Sg} {o : Nat} {f : Nat → Nat} (ho : tf_mo G o) (hf : tf_sf G S o f) (hg : tf_gd f) : tf_Fn mX11_pieces 3 0 0 G S [.ref o] G S (some (.int (nI (tf_np f 40 0)))) := by
  obtain ⟨h1, ⟨r0, t0, n0⟩, ⟨r1, t1, n1⟩, ⟨r2, t2, n2⟩, ⟨r4, t4, n4⟩⟩ := id ho
  obtain ⟨hs, hb⟩ := id hf
  obtain ⟨⟨g1, g2, g3, g4⟩, g5, g6, g7, g8, g9, g10, g11⟩ := id hg
  refine tf_Fn_of (own := RX11) false ⟨by decide, rfl, by decide⟩ (Nat.le_of_ble_eq_true rfl) trivial (fun x hx hR => ?_)
  show tf_K x 0 0 G S 0 [some (.ref o), none, none] []
  refine tf_go hx ftX11_pieces 4 [] 4 [some (.ref o), some (.int 0), some (.int 0)] [] S rfl ⟨by decide, by decide, rfl⟩ trivial ?_
  have loop : ∀ (m k : Nat) (n : Nat), f 364 ≤ k + m → (n + tf_np f m k = tf_np f 40 0) → (k ≤ 48) → tf_K x 0 0 G S 4 [some (.ref o), some (.int (nI n)), some (.int (nI k))] [] := by
    intro m
    induction m with
    | zero =>
      intro k n hk he hk3
      refine tf_go hx ftX11_pieces 5 [] 13 [some (.ref o), some (.int (nI n)), some (.int (nI k))] [.int (S (tf_rf G o 1) (Int32.toNatClampNeg 364)), .int (nI k)] S rfl ⟨by decide, by decide, rfl⟩ ⟨⟨trivial, ⟨by first | assumption | rfl | decide | omega, by first | assumption | rfl | decide | omega⟩⟩, ⟨Or.inl (by first | assumption | rfl | decide | omega), by first | assumption | exact tf_in (n := 364) (rfl : (364 : Int32) = nI 364) (by first | assumption | rfl) (by omega) (by decide)⟩⟩ ?_
      rw [show (S (tf_rf G o 1) (Int32.toNatClampNeg 364)) = nI (f 364) from (tf_rd hs (rfl : (364 : Int32) = nI 364) (by omega))]
      refine tf_go hx ftX11_pieces 2 [true] 35 [some (.ref o), some (.int (nI n)), some (.int (nI k))] [.int (nI n)] S rfl ⟨by decide, by decide, rfl⟩ ⟨trivial, (tf_leT (a := (f 364)) (b := k) rfl rfl (by have := hb 364; omega) (by have := hb 364; omega) (by have := hb 364; omega))⟩ ?_
      exact tf_ret ftX11_pieces hR rfl ⟨by decide, by decide⟩ rfl rfl (by rw [← he]; rfl)
    | succ m ih =>
      intro k n hk he hk3
      rw [tf_np_s] at he
      refine tf_go hx ftX11_pieces 5 [] 13 [some (.ref o), some (.int (nI n)), some (.int (nI k))] [.int (S (tf_rf G o 1) (Int32.toNatClampNeg 364)), .int (nI k)] S rfl ⟨by decide, by decide, rfl⟩ ⟨⟨trivial, ⟨by first | assumption | rfl | decide | omega, by first | assumption | rfl | decide | omega⟩⟩, ⟨Or.inl (by first | assumption | rfl | decide | omega), by first | assumption | exact tf_in (n := 364) (rfl : (364 : Int32) = nI 364) (by first | assumption | rfl) (by omega) (by decide)⟩⟩ ?_
      rw [show (S (tf_rf G o 1) (Int32.toNatClampNeg 364)) = nI (f 364) from (tf_rd hs (rfl : (364 : Int32) = nI 364) (by omega))]
      by_cases c1 : k < f 364
      · refine tf_go hx ftX11_pieces 1 [false] 16 [some (.ref o), some (.int (nI n)), some (.int (nI k))] [] S rfl ⟨by decide, by decide, rfl⟩ ⟨trivial, (tf_leF (a := (f 364)) (b := k) rfl rfl (by have := hb 364; omega) (by have := hb 364; omega) (by have := hb 364; omega))⟩ ?_
        refine tf_go hx ftX11_pieces 5 [] 23 [some (.ref o), some (.int ((nI n) + 1)), some (.int (nI k))] [.int (nI k), .ref o, .ref o, .int (nI k)] S rfl ⟨by decide, by decide, rfl⟩ trivial ?_
        rw [show ((nI n) + 1) = nI (n + 1) from (tf_add rfl (rfl : (1 : Int32) = nI 1))]
        refine tf_cV hx ftX11_pieces (nx := 26) (As := [.int (nI k)]) (rest := [.ref o, .int (nI k)]) (st2 := [.int (tf_on 10 (tf_wd f k)), .ref o, .int (nI k)]) (m_wordAt k ho hf hg (by omega)) rfl lX11_86 (by first | assumption | rfl | decide) rfl ⟨rfl, by decide, by decide, by decide, rfl, rfl⟩ ?_
        refine tf_cV hx ftX11_pieces (nx := 29) (As := [.int (tf_on 10 (tf_wd f k))]) (rest := [.int (nI k)]) (st2 := [.int (nI (tf_sz f (tf_wd f k))), .int (nI k)]) (m_sizeOf (tf_wd f k) ho hf) rfl lX11_83 (by first | assumption | rfl | decide) rfl ⟨rfl, by decide, by decide, by decide, rfl, rfl⟩ ?_
        have s1 := tf_sz_le hg (tf_wd_le f k)
        refine tf_go hx ftX11_pieces 3 [] 4 [some (.ref o), some (.int (nI (n + 1))), some (.int ((nI k) + (nI (tf_sz f (tf_wd f k)))))] [] S rfl ⟨by decide, by decide, rfl⟩ trivial ?_
        rw [show ((nI k) + (nI (tf_sz f (tf_wd f k)))) = nI (k + (tf_sz f (tf_wd f k))) from (tf_add rfl rfl)]
        exact ih (k + tf_sz f (tf_wd f k)) (n + 1) (by omega) (by rw [if_pos c1] at he; omega) (by omega)
      · refine tf_go hx ftX11_pieces 2 [true] 35 [some (.ref o), some (.int (nI n)), some (.int (nI k))] [.int (nI n)] S rfl ⟨by decide, by decide, rfl⟩ ⟨trivial, (tf_leT (a := (f 364)) (b := k) rfl rfl (by have := hb 364; omega) (by have := hb 364; omega) (by have := hb 364; omega))⟩ ?_
        exact tf_ret ftX11_pieces hR rfl ⟨by decide, by decide⟩ rfl rfl (by rw [if_neg c1] at he; rw [← he]; rfl)
  exact loop 40 0 0 (by omega) (by omega) (by omega)

set_option maxHeartbeats 1000000 in
theorem m_gapAt {G : tf_G} {S : tf_Sg} {o : Nat} {f : Nat → Nat} (h b i t : Nat) (ho : tf_mo G o) (hf : tf_sf G S o f) (hg : tf_gd f) (hh : h < 4) (hbb : b < 4) (hi : i < f 364) (ht : t < 2) : tf_Fn mX11_gapAt 4 0 0 G S [.ref o, .int (nI h), .int (nI b), .int (nI i), .int (nI t)] G S (some (.int (nI (tf_gt f h b i t)))) := by
  obtain ⟨h1, ⟨r0, t0, n0⟩, ⟨r1, t1, n1⟩, ⟨r2, t2, n2⟩, ⟨r4, t4, n4⟩⟩ := id ho
  obtain ⟨hs, hb⟩ := id hf
  obtain ⟨⟨g1, g2, g3, g4⟩, g5, g6, g7, g8, g9, g10, g11⟩ := id hg
  refine tf_Fn_of (own := RX11) false ⟨by decide, rfl, by decide⟩ (Nat.le_of_ble_eq_true rfl) trivial (fun x hx hR => ?_)
  show tf_K x 0 0 G S 0 [some (.ref o), some (.int (nI h)), some (.int (nI b)), some (.int (nI i)), some (.int (nI t)), none, none] []
  unfold tf_gt at hR
  have l1 := g6 i hi
  refine tf_go hx ftX11_gapAt 8 [] 12 [some (.ref o), some (.int (nI h)), some (.int (nI b)), some (.int (nI i)), some (.int (nI t)), none, none] [.int (S (tf_rf G o 1) (Int32.toNatClampNeg (144 + (nI i)))), .int (nI b), .ref o] S rfl ⟨by decide, by decide, rfl⟩ ⟨⟨trivial, ⟨by first | assumption | rfl | decide | omega, by first | assumption | rfl | decide | omega⟩⟩, ⟨Or.inl (by first | assumption | rfl | decide | omega), by first | assumption | exact tf_in (n := (144 + i)) (tf_add (rfl : (144 : Int32) = nI 144) rfl) (by first | assumption | rfl) (by omega) (by decide)⟩⟩ ?_
  rw [show (S (tf_rf G o 1) (Int32.toNatClampNeg (144 + (nI i)))) = nI (f (144 + i)) from (tf_rd hs (tf_add (rfl : (144 : Int32) = nI 144) rfl) (by omega))]
  refine tf_cV hx ftX11_gapAt (nx := 15) (As := [.int (nI b), .int (nI (f (144 + i)))]) (rest := []) (st2 := [.int (tf_on 30 (tf_ke f b (f (144 + i))))]) (m_keyAt b (f (144 + i)) ho hf hbb (by omega)) rfl lX11_51 (by first | assumption | rfl | decide) rfl ⟨rfl, by decide, by decide, by decide, rfl, rfl⟩ ?_
  have k1 := tf_ke_le f b (f (144 + i))
  by_cases c1 : tf_ke f b (f (144 + i)) = 30
  · rw [tf_on_n (by omega)]
    refine tf_go hx ftX11_gapAt 4 [false] 25 [some (.ref o), some (.int (nI h)), some (.int (nI b)), some (.int (nI i)), some (.int (nI t)), some (.int (-9)), none] [.int 999] S rfl ⟨by decide, by decide, rfl⟩ ⟨trivial, (by decide)⟩ ?_
    exact tf_ret ftX11_gapAt hR rfl ⟨by decide, by decide⟩ rfl rfl (by rw [if_pos c1]; rfl)
  · rw [tf_on_y (show tf_ke f b (f (144 + i)) < 30 by omega)]
    refine tf_go hx ftX11_gapAt 3 [true] 26 [some (.ref o), some (.int (nI h)), some (.int (nI b)), some (.int (nI i)), some (.int (nI t)), some (.int (nI (tf_ke f b (f (144 + i))))), none] [] S rfl ⟨by decide, by decide, rfl⟩ ⟨trivial, (tf_leT (a := 0) (b := (tf_ke f b (f (144 + i)))) (rfl : (0 : Int32) = nI 0) rfl (by have := hb b; have := hb (144 + i); omega) (by have := hb b; have := hb (144 + i); omega) (by have := hb b; have := hb (144 + i); omega))⟩ ?_
    refine tf_go hx ftX11_gapAt 1 [] 27 [some (.ref o), some (.int (nI h)), some (.int (nI b)), some (.int (nI i)), some (.int (nI t)), some (.int (nI (tf_ke f b (f (144 + i))))), none] [.int (nI i)] S rfl ⟨by decide, by decide, rfl⟩ trivial ?_
    by_cases c2 : i = 0
    · refine tf_go hx ftX11_gapAt 4 [false] 54 [some (.ref o), some (.int (nI h)), some (.int (nI b)), some (.int (nI i)), some (.int (nI t)), some (.int (nI (tf_ke f b (f (144 + i))))), some (.int (-9))] [] S rfl ⟨by decide, by decide, rfl⟩ ⟨trivial, (tf_neF (a := i) (b := 0) rfl (rfl : (0 : Int32) = nI 0) (by omega))⟩ ?_
      refine tf_go hx ftX11_gapAt 11 [false] 85 [some (.ref o), some (.int (nI h)), some (.int (nI b)), some (.int (nI i)), some (.int (nI t)), some (.int (nI (tf_ke f b (f (144 + i))))), some (.int (-9))] [.int (S (tf_rf G o 1) (Int32.toNatClampNeg (120 + (6 * (nI h)))))] S rfl ⟨by decide, by decide, rfl⟩ ⟨⟨⟨trivial, (by decide)⟩, ⟨by first | assumption | rfl | decide | omega, by first | assumption | rfl | decide | omega⟩⟩, ⟨Or.inl (by first | assumption | rfl | decide | omega), by first | assumption | exact tf_in (n := (120 + (6 * h))) (tf_add (rfl : (120 : Int32) = nI 120) (tf_mul (rfl : (6 : Int32) = nI 6) rfl)) (by first | assumption | rfl) (by omega) (by decide)⟩⟩ ?_
      rw [show (S (tf_rf G o 1) (Int32.toNatClampNeg (120 + (6 * (nI h))))) = nI (f (120 + (6 * h))) from (tf_rd hs (tf_add (rfl : (120 : Int32) = nI 120) (tf_mul (rfl : (6 : Int32) = nI 6) rfl)) (by omega))]
      exact tf_ret ftX11_gapAt hR rfl ⟨by decide, by decide⟩ rfl rfl (by rw [if_neg c1, if_pos (Or.inl c2)]; rfl)
    · have l2 := g6 (i - 1) (by omega)
      rw [show 144 + (i - 1) = 144 + i - 1 by omega] at l2
      refine tf_go hx ftX11_gapAt 1 [true] 35 [some (.ref o), some (.int (nI h)), some (.int (nI b)), some (.int (nI i)), some (.int (nI t)), some (.int (nI (tf_ke f b (f (144 + i))))), none] [] S rfl ⟨by decide, by decide, rfl⟩ ⟨trivial, (tf_eqF (a := i) (b := 0) rfl (rfl : (0 : Int32) = nI 0) (by omega) (by omega) (by omega))⟩ ?_
      refine tf_go hx ftX11_gapAt 10 [] 49 [some (.ref o), some (.int (nI h)), some (.int (nI b)), some (.int (nI i)), some (.int (nI t)), some (.int (nI (tf_ke f b (f (144 + i))))), none] [.int (S (tf_rf G o 1) (Int32.toNatClampNeg ((144 + (nI i)) - 1))), .int (nI b), .ref o] S rfl ⟨by decide, by decide, rfl⟩ ⟨⟨trivial, ⟨by first | assumption | rfl | decide | omega, by first | assumption | rfl | decide | omega⟩⟩, ⟨Or.inl (by first | assumption | rfl | decide | omega), by first | assumption | exact tf_in (n := ((144 + i) - 1)) (tf_sub (tf_add (rfl : (144 : Int32) = nI 144) rfl) (rfl : (1 : Int32) = nI 1) (by omega)) (by first | assumption | rfl) (by omega) (by decide)⟩⟩ ?_
      rw [show (S (tf_rf G o 1) (Int32.toNatClampNeg ((144 + (nI i)) - 1))) = nI (f ((144 + i) - 1)) from (tf_rd hs (tf_sub (tf_add (rfl : (144 : Int32) = nI 144) rfl) (rfl : (1 : Int32) = nI 1) (by omega)) (by omega))]
      refine tf_cV hx ftX11_gapAt (nx := 52) (As := [.int (nI b), .int (nI (f ((144 + i) - 1)))]) (rest := []) (st2 := [.int (tf_on 30 (tf_ke f b (f (144 + i - 1))))]) (m_keyAt b (f (144 + i - 1)) ho hf hbb (by omega)) rfl lX11_51 (by first | assumption | rfl | decide) rfl ⟨rfl, by decide, by decide, by decide, rfl, rfl⟩ ?_
      have k2 := tf_ke_le f b (f (144 + i - 1))
      by_cases c3 : tf_ke f b (f (144 + i - 1)) = 30
      · rw [tf_on_n (by omega)]
        refine tf_go hx ftX11_gapAt 12 [false] 85 [some (.ref o), some (.int (nI h)), some (.int (nI b)), some (.int (nI i)), some (.int (nI t)), some (.int (nI (tf_ke f b (f (144 + i))))), some (.int (-9))] [.int (S (tf_rf G o 1) (Int32.toNatClampNeg (120 + (6 * (nI h)))))] S rfl ⟨by decide, by decide, rfl⟩ ⟨⟨⟨trivial, (by decide)⟩, ⟨by first | assumption | rfl | decide | omega, by first | assumption | rfl | decide | omega⟩⟩, ⟨Or.inl (by first | assumption | rfl | decide | omega), by first | assumption | exact tf_in (n := (120 + (6 * h))) (tf_add (rfl : (120 : Int32) = nI 120) (tf_mul (rfl : (6 : Int32) = nI 6) rfl)) (by first | assumption | rfl) (by omega) (by decide)⟩⟩ ?_
        rw [show (S (tf_rf G o 1) (Int32.toNatClampNeg (120 + (6 * (nI h))))) = nI (f (120 + (6 * h))) from (tf_rd hs (tf_add (rfl : (120 : Int32) = nI 120) (tf_mul (rfl : (6 : Int32) = nI 6) rfl)) (by omega))]
        exact tf_ret ftX11_gapAt hR rfl ⟨by decide, by decide⟩ rfl rfl (by rw [if_neg c1, if_pos (Or.inr c3)]; rfl)
      · rw [tf_on_y (show tf_ke f b (f (144 + i - 1)) < 30 by omega)]
        refine tf_go hx ftX11_gapAt 3 [true] 74 [some (.ref o), some (.int (nI h)), some (.int (nI b)), some (.int (nI i)), some (.int (nI t)), some (.int (nI (tf_ke f b (f (144 + i))))), some (.int (nI (tf_ke f b (f (144 + i - 1)))))] [] S rfl ⟨by decide, by decide, rfl⟩ ⟨trivial, (tf_leT (a := 0) (b := (tf_ke f b (f (144 + i - 1)))) (rfl : (0 : Int32) = nI 0) rfl (by have := hb b; have := hb (144 + i - 1); omega) (by have := hb b; have := hb (144 + i - 1); omega) (by have := hb b; have := hb (144 + i - 1); omega))⟩ ?_
        refine tf_go hx ftX11_gapAt 5 [] 82 [some (.ref o), some (.int (nI h)), some (.int (nI b)), some (.int (nI i)), some (.int (nI t)), some (.int (nI (tf_ke f b (f (144 + i))))), some (.int (nI (tf_ke f b (f (144 + i - 1)))))] [.int (nI t), .int (nI (tf_ke f b (f (144 + i)))), .int (nI (tf_ke f b (f (144 + i - 1)))), .int (nI h), .ref o] S rfl ⟨by decide, by decide, rfl⟩ trivial ?_
        refine tf_cV hx ftX11_gapAt (nx := 85) (As := [.int (nI h), .int (nI (tf_ke f b (f (144 + i - 1)))), .int (nI (tf_ke f b (f (144 + i)))), .int (nI t)]) (rest := []) (st2 := [.int (nI (tf_ga f h (tf_ke f b (f (144 + i - 1))) (tf_ke f b (f (144 + i))) t))]) (m_gapOf h (tf_ke f b (f (144 + i - 1))) (tf_ke f b (f (144 + i))) t ho hf hh (by omega) (by omega) ht) rfl lX11_76 (by first | assumption | rfl | decide) rfl ⟨rfl, by decide, by decide, by decide, rfl, rfl⟩ ?_
        exact tf_ret ftX11_gapAt hR rfl ⟨by decide, by decide⟩ rfl rfl (by rw [if_neg c1, if_neg (by rintro (h | h); exact c2 h; exact c3 h)]; rfl)

/-- what is told of a PIECE -/
def tf_pv (f : Nat → Nat) (i w : Int32) : Int32 := if tf_pa f i < 40 then (if w = 0 then nI (tf_pa f i) else if w = 1 then nI (tf_sz f (tf_wd f (tf_pa f i))) else tf_on 10 (tf_wd f (tf_pa f i))) else (-9)

set_option maxHeartbeats 1000000 in
theorem m_piece {G : tf_G} {S : tf_Sg} {o : Nat} {f : Nat → Nat} (i w : Int32) (ho : tf_mo G o) (hf : tf_sf G S o f) (hg : tf_gd f) (hw : ¬ w < 0 ∧ ¬ 3 ≤ w) : tf_Fn mX11_piece 3 0 0 G S [.ref o, .int i, .int w] G S (some (.int (tf_pv f i w))) := by
  obtain ⟨h1, ⟨r0, t0, n0⟩, ⟨r1, t1, n1⟩, ⟨r2, t2, n2⟩, ⟨r4, t4, n4⟩⟩ := id ho
  obtain ⟨hs, hb⟩ := id hf
  obtain ⟨⟨g1, g2, g3, g4⟩, g5, g6, g7, g8, g9, g10, g11⟩ := id hg
  refine tf_Fn_of (own := RX11) false ⟨by decide, rfl, by decide⟩ (Nat.le_of_ble_eq_true rfl) trivial (fun x hx hR => ?_)
  show tf_K x 0 0 G S 0 [some (.ref o), some (.int i), some (.int w), none, none] []
  refine tf_go hx ftX11_piece 2 [] 2 [some (.ref o), some (.int i), some (.int w), none, none] [.int 3, .int w] S rfl ⟨by decide, by decide, rfl⟩ trivial ?_
  refine tf_cS hx ftX11_piece (nx := 5) (As := [.int w, .int 3]) (rest := []) (st2 := [.int (if ¬ w < 0 ∧ ¬ 3 ≤ w then 1 else 0)]) (m_isIn w 3) rfl lX11_22 rfl ⟨rfl, by decide, by decide, by decide, rfl, rfl⟩ ?_
  rw [if_pos hw]
  refine tf_go hx ftX11_piece 5 [true] 20 [some (.ref o), some (.int i), some (.int w), some (.int 0), some (.int 0)] [] S rfl ⟨by decide, by decide, rfl⟩ ⟨trivial, (by decide)⟩ ?_
  have loop : ∀ (m k : Nat) (n : Nat), f 364 ≤ k + m → (tf_pb f i m k n = tf_pa f i) → (k ≤ 48) → tf_K x 0 0 G S 20 [some (.ref o), some (.int i), some (.int w), some (.int (nI n)), some (.int (nI k))] [] := by
    intro m
    induction m with
    | zero =>
      intro k n hk he hk3
      refine tf_go hx ftX11_piece 5 [] 30 [some (.ref o), some (.int i), some (.int w), some (.int (nI n)), some (.int (nI k))] [.int (S (tf_rf G o 1) (Int32.toNatClampNeg 364)), .int (nI k)] S rfl ⟨by decide, by decide, rfl⟩ ⟨⟨trivial, ⟨by first | assumption | rfl | decide | omega, by first | assumption | rfl | decide | omega⟩⟩, ⟨Or.inl (by first | assumption | rfl | decide | omega), by first | assumption | exact tf_in (n := 364) (rfl : (364 : Int32) = nI 364) (by first | assumption | rfl) (by omega) (by decide)⟩⟩ ?_
      rw [show (S (tf_rf G o 1) (Int32.toNatClampNeg 364)) = nI (f 364) from (tf_rd hs (rfl : (364 : Int32) = nI 364) (by omega))]
      refine tf_go hx ftX11_piece 2 [true] 95 [some (.ref o), some (.int i), some (.int w), some (.int (nI n)), some (.int (nI k))] [.int (-9)] S rfl ⟨by decide, by decide, rfl⟩ ⟨trivial, (tf_leT (a := (f 364)) (b := k) rfl rfl (by have := hb 364; omega) (by have := hb 364; omega) (by have := hb 364; omega))⟩ ?_
      exact tf_ret ftX11_piece hR rfl ⟨by decide, by decide⟩ rfl rfl (by have h40 : tf_pb f i 0 k n = 40 := rfl; unfold tf_pv; rw [← he, h40, if_neg (show ¬ (40 < 40) by omega)]; rfl)
    | succ m ih =>
      intro k n hk he hk3
      rw [tf_pb_s] at he
      refine tf_go hx ftX11_piece 5 [] 30 [some (.ref o), some (.int i), some (.int w), some (.int (nI n)), some (.int (nI k))] [.int (S (tf_rf G o 1) (Int32.toNatClampNeg 364)), .int (nI k)] S rfl ⟨by decide, by decide, rfl⟩ ⟨⟨trivial, ⟨by first | assumption | rfl | decide | omega, by first | assumption | rfl | decide | omega⟩⟩, ⟨Or.inl (by first | assumption | rfl | decide | omega), by first | assumption | exact tf_in (n := 364) (rfl : (364 : Int32) = nI 364) (by first | assumption | rfl) (by omega) (by decide)⟩⟩ ?_
      rw [show (S (tf_rf G o 1) (Int32.toNatClampNeg 364)) = nI (f 364) from (tf_rd hs (rfl : (364 : Int32) = nI 364) (by omega))]
      by_cases c2 : k < f 364
      · rw [if_pos c2] at he
        refine tf_go hx ftX11_piece 1 [false] 33 [some (.ref o), some (.int i), some (.int w), some (.int (nI n)), some (.int (nI k))] [] S rfl ⟨by decide, by decide, rfl⟩ ⟨trivial, (tf_leF (a := (f 364)) (b := k) rfl rfl (by have := hb 364; omega) (by have := hb 364; omega) (by have := hb 364; omega))⟩ ?_
        refine tf_go hx ftX11_piece 2 [] 35 [some (.ref o), some (.int i), some (.int w), some (.int (nI n)), some (.int (nI k))] [.int i, .int (nI n)] S rfl ⟨by decide, by decide, rfl⟩ trivial ?_
        by_cases c3 : nI n = i
        · rw [if_pos c3] at he
          by_cases c4 : w = 0
          · refine tf_go hx ftX11_piece 1 [false] 38 [some (.ref o), some (.int i), some (.int w), some (.int (nI n)), some (.int (nI k))] [] S rfl ⟨by decide, by decide, rfl⟩ ⟨trivial, (fun h => h c3)⟩ ?_
            refine tf_go hx ftX11_piece 4 [false] 71 [some (.ref o), some (.int i), some (.int w), some (.int (nI n)), some (.int (nI k))] [.int (nI k)] S rfl ⟨by decide, by decide, rfl⟩ ⟨trivial, (fun h => h c4)⟩ ?_
            exact tf_ret ftX11_piece hR rfl ⟨by decide, by decide⟩ rfl rfl (by unfold tf_pv; rw [← he, if_pos (show k < 40 by omega), if_pos c4]; rfl)
          · refine tf_go hx ftX11_piece 1 [false] 38 [some (.ref o), some (.int i), some (.int w), some (.int (nI n)), some (.int (nI k))] [] S rfl ⟨by decide, by decide, rfl⟩ ⟨trivial, (fun h => h c3)⟩ ?_
            refine tf_go hx ftX11_piece 2 [true] 47 [some (.ref o), some (.int i), some (.int w), some (.int (nI n)), some (.int (nI k))] [] S rfl ⟨by decide, by decide, rfl⟩ ⟨trivial, c4⟩ ?_
            refine tf_go hx ftX11_piece 2 [] 49 [some (.ref o), some (.int i), some (.int w), some (.int (nI n)), some (.int (nI k))] [.int 1, .int w] S rfl ⟨by decide, by decide, rfl⟩ trivial ?_
            by_cases c5 : w = 1
            · refine tf_go hx ftX11_piece 4 [false] 56 [some (.ref o), some (.int i), some (.int w), some (.int (nI n)), some (.int (nI k))] [.int (nI k), .ref o, .ref o] S rfl ⟨by decide, by decide, rfl⟩ ⟨trivial, (fun h => h c5)⟩ ?_
              refine tf_cV hx ftX11_piece (nx := 59) (As := [.int (nI k)]) (rest := [.ref o]) (st2 := [.int (tf_on 10 (tf_wd f k)), .ref o]) (m_wordAt k ho hf hg (by omega)) rfl lX11_86 (by first | assumption | rfl | decide) rfl ⟨rfl, by decide, by decide, by decide, rfl, rfl⟩ ?_
              refine tf_cV hx ftX11_piece (nx := 62) (As := [.int (tf_on 10 (tf_wd f k))]) (rest := []) (st2 := [.int (nI (tf_sz f (tf_wd f k)))]) (m_sizeOf (tf_wd f k) ho hf) rfl lX11_83 (by first | assumption | rfl | decide) rfl ⟨rfl, by decide, by decide, by decide, rfl, rfl⟩ ?_
              refine tf_go hx ftX11_piece 1 [] 71 [some (.ref o), some (.int i), some (.int w), some (.int (nI n)), some (.int (nI k))] [.int (nI (tf_sz f (tf_wd f k)))] S rfl ⟨by decide, by decide, rfl⟩ trivial ?_
              exact tf_ret ftX11_piece hR rfl ⟨by decide, by decide⟩ rfl rfl (by unfold tf_pv; rw [← he, if_pos (show k < 40 by omega), if_neg c4, if_pos c5]; rfl)
            · refine tf_go hx ftX11_piece 3 [true] 68 [some (.ref o), some (.int i), some (.int w), some (.int (nI n)), some (.int (nI k))] [.int (nI k), .ref o] S rfl ⟨by decide, by decide, rfl⟩ ⟨trivial, c5⟩ ?_
              refine tf_cV hx ftX11_piece (nx := 71) (As := [.int (nI k)]) (rest := []) (st2 := [.int (tf_on 10 (tf_wd f k))]) (m_wordAt k ho hf hg (by omega)) rfl lX11_86 (by first | assumption | rfl | decide) rfl ⟨rfl, by decide, by decide, by decide, rfl, rfl⟩ ?_
              exact tf_ret ftX11_piece hR rfl ⟨by decide, by decide⟩ rfl rfl (by unfold tf_pv; rw [← he, if_pos (show k < 40 by omega), if_neg c4, if_neg c5]; rfl)
        · rw [if_neg c3] at he
          refine tf_go hx ftX11_piece 6 [true] 81 [some (.ref o), some (.int i), some (.int w), some (.int ((nI n) + 1)), some (.int (nI k))] [.int (nI k), .ref o, .ref o, .int (nI k)] S rfl ⟨by decide, by decide, rfl⟩ ⟨trivial, c3⟩ ?_
          rw [show ((nI n) + 1) = nI (n + 1) from (tf_add rfl (rfl : (1 : Int32) = nI 1))]
          refine tf_cV hx ftX11_piece (nx := 84) (As := [.int (nI k)]) (rest := [.ref o, .int (nI k)]) (st2 := [.int (tf_on 10 (tf_wd f k)), .ref o, .int (nI k)]) (m_wordAt k ho hf hg (by omega)) rfl lX11_86 (by first | assumption | rfl | decide) rfl ⟨rfl, by decide, by decide, by decide, rfl, rfl⟩ ?_
          refine tf_cV hx ftX11_piece (nx := 87) (As := [.int (tf_on 10 (tf_wd f k))]) (rest := [.int (nI k)]) (st2 := [.int (nI (tf_sz f (tf_wd f k))), .int (nI k)]) (m_sizeOf (tf_wd f k) ho hf) rfl lX11_83 (by first | assumption | rfl | decide) rfl ⟨rfl, by decide, by decide, by decide, rfl, rfl⟩ ?_
          have s1 := tf_sz_le hg (tf_wd_le f k)
          refine tf_go hx ftX11_piece 3 [] 20 [some (.ref o), some (.int i), some (.int w), some (.int (nI (n + 1))), some (.int ((nI k) + (nI (tf_sz f (tf_wd f k)))))] [] S rfl ⟨by decide, by decide, rfl⟩ trivial ?_
          rw [show ((nI k) + (nI (tf_sz f (tf_wd f k)))) = nI (k + (tf_sz f (tf_wd f k))) from (tf_add rfl rfl)]
          exact ih (k + tf_sz f (tf_wd f k)) (n + 1) (by omega) he (by omega)
      · refine tf_go hx ftX11_piece 2 [true] 95 [some (.ref o), some (.int i), some (.int w), some (.int (nI n)), some (.int (nI k))] [.int (-9)] S rfl ⟨by decide, by decide, rfl⟩ ⟨trivial, (tf_leT (a := (f 364)) (b := k) rfl rfl (by have := hb 364; omega) (by have := hb 364; omega) (by have := hb 364; omega))⟩ ?_
        exact tf_ret ftX11_piece hR rfl ⟨by decide, by decide⟩ rfl rfl (by rw [if_neg c2] at he; unfold tf_pv; rw [← he, if_neg (show ¬ (40 < 40) by omega)]; rfl)
  exact loop 40 0 0 (by omega) rfl (by omega)

set_option maxHeartbeats 1000000 in
theorem m_timeOf {G : tf_G} {S : tf_Sg} {o : Nat} {f : Nat → Nat} (h b t : Nat) (ho : tf_mo G o) (hf : tf_sf G S o f) (hg : tf_gd f) (hh : h < 4) (hbb : b < 4) (ht : t < 2) : tf_Fn mX11_timeOf 5 0 0 G S [.ref o, .int (nI h), .int (nI b), .int (nI t)] G S (some (.int (nI (tf_tm f h b t)))) := by
  obtain ⟨h1, ⟨r0, t0, n0⟩, ⟨r1, t1, n1⟩, ⟨r2, t2, n2⟩, ⟨r4, t4, n4⟩⟩ := id ho
  obtain ⟨hs, hb⟩ := id hf
  obtain ⟨⟨g1, g2, g3, g4⟩, g5, g6, g7, g8, g9, g10, g11⟩ := id hg
  refine tf_Fn_of (own := RX11) false ⟨by decide, rfl, by decide⟩ (Nat.le_of_ble_eq_true rfl) trivial (fun x hx hR => ?_)
  show tf_K x 0 0 G S 0 [some (.ref o), some (.int (nI h)), some (.int (nI b)), some (.int (nI t)), none, none, none, none, none, none] []
  unfold tf_tm at hR
  refine tf_go hx ftX11_timeOf 4 [] 6 [some (.ref o), some (.int (nI h)), some (.int (nI b)), some (.int (nI t)), some (.int 0), some (.int 0), none, none, none, none] [] S rfl ⟨by decide, by decide, rfl⟩ trivial ?_
  have loop : ∀ (m k : Nat) (y : Nat), f 364 ≤ k + m → (y + tf_tl f h b t m k = tf_tl f h b t 40 0) → (k ≤ 48) → tf_K x 0 0 G S 6 [some (.ref o), some (.int (nI h)), some (.int (nI b)), some (.int (nI t)), some (.int (nI y)), some (.int (nI k)), none, none, none, none] [] := by
    intro m
    induction m with
    | zero =>
      intro k y hk he hk3
      refine tf_go hx ftX11_timeOf 5 [] 16 [some (.ref o), some (.int (nI h)), some (.int (nI b)), some (.int (nI t)), some (.int (nI y)), some (.int (nI k)), none, none, none, none] [.int (S (tf_rf G o 1) (Int32.toNatClampNeg 364)), .int (nI k)] S rfl ⟨by decide, by decide, rfl⟩ ⟨⟨trivial, ⟨by first | assumption | rfl | decide | omega, by first | assumption | rfl | decide | omega⟩⟩, ⟨Or.inl (by first | assumption | rfl | decide | omega), by first | assumption | exact tf_in (n := 364) (rfl : (364 : Int32) = nI 364) (by first | assumption | rfl) (by omega) (by decide)⟩⟩ ?_
      rw [show (S (tf_rf G o 1) (Int32.toNatClampNeg 364)) = nI (f 364) from (tf_rd hs (rfl : (364 : Int32) = nI 364) (by omega))]
      refine tf_go hx ftX11_timeOf 2 [true] 161 [some (.ref o), some (.int (nI h)), some (.int (nI b)), some (.int (nI t)), some (.int (nI y)), some (.int (nI k)), none, none, none, none] [.int (nI y)] S rfl ⟨by decide, by decide, rfl⟩ ⟨trivial, (tf_leT (a := (f 364)) (b := k) rfl rfl (by have := hb 364; omega) (by have := hb 364; omega) (by have := hb 364; omega))⟩ ?_
      exact tf_ret ftX11_timeOf hR rfl ⟨by decide, by decide⟩ rfl rfl (by rw [← he]; rfl)
    | succ m ih =>
      intro k y hk he hk3
      rw [tf_tl_s] at he
      refine tf_go hx ftX11_timeOf 5 [] 16 [some (.ref o), some (.int (nI h)), some (.int (nI b)), some (.int (nI t)), some (.int (nI y)), some (.int (nI k)), none, none, none, none] [.int (S (tf_rf G o 1) (Int32.toNatClampNeg 364)), .int (nI k)] S rfl ⟨by decide, by decide, rfl⟩ ⟨⟨trivial, ⟨by first | assumption | rfl | decide | omega, by first | assumption | rfl | decide | omega⟩⟩, ⟨Or.inl (by first | assumption | rfl | decide | omega), by first | assumption | exact tf_in (n := 364) (rfl : (364 : Int32) = nI 364) (by first | assumption | rfl) (by omega) (by decide)⟩⟩ ?_
      rw [show (S (tf_rf G o 1) (Int32.toNatClampNeg 364)) = nI (f 364) from (tf_rd hs (rfl : (364 : Int32) = nI 364) (by omega))]
      by_cases c2 : k < f 364
      · rw [if_pos c2] at he
        refine tf_go hx ftX11_timeOf 1 [false] 19 [some (.ref o), some (.int (nI h)), some (.int (nI b)), some (.int (nI t)), some (.int (nI y)), some (.int (nI k)), none, none, none, none] [] S rfl ⟨by decide, by decide, rfl⟩ ⟨trivial, (tf_leF (a := (f 364)) (b := k) rfl rfl (by have := hb 364; omega) (by have := hb 364; omega) (by have := hb 364; omega))⟩ ?_
        refine tf_go hx ftX11_timeOf 2 [] 22 [some (.ref o), some (.int (nI h)), some (.int (nI b)), some (.int (nI t)), some (.int (nI y)), some (.int (nI k)), none, none, none, none] [.int (nI k), .ref o] S rfl ⟨by decide, by decide, rfl⟩ trivial ?_
        refine tf_cV hx ftX11_timeOf (nx := 25) (As := [.int (nI k)]) (rest := []) (st2 := [.int (tf_on 10 (tf_wd f k))]) (m_wordAt k ho hf hg (by omega)) rfl lX11_86 (by first | assumption | rfl | decide) rfl ⟨rfl, by decide, by decide, by decide, rfl, rfl⟩ ?_
        refine tf_go hx ftX11_timeOf 3 [] 30 [some (.ref o), some (.int (nI h)), some (.int (nI b)), some (.int (nI t)), some (.int (nI y)), some (.int (nI k)), some (.int (tf_on 10 (tf_wd f k))), none, none, none] [.int (tf_on 10 (tf_wd f k)), .ref o] S rfl ⟨by decide, by decide, rfl⟩ trivial ?_
        refine tf_cV hx ftX11_timeOf (nx := 33) (As := [.int (tf_on 10 (tf_wd f k))]) (rest := []) (st2 := [.int (nI (tf_sz f (tf_wd f k)))]) (m_sizeOf (tf_wd f k) ho hf) rfl lX11_83 (by first | assumption | rfl | decide) rfl ⟨rfl, by decide, by decide, by decide, rfl, rfl⟩ ?_
        have s1 := tf_sz_le hg (tf_wd_le f k)
        have w1 := tf_wd_le f k
        generalize hw : tf_wd f k = w at *
        have p1 : tf_pt f w ≤ 100 := by unfold tf_pt; split <;> omega
        have inner : tf_K x 0 0 G S 96 [some (.ref o), some (.int (nI h)), some (.int (nI b)), some (.int (nI t)), some (.int (nI y)), some (.int (nI k)), some (.int (tf_on 10 w)), some (.int (nI (tf_sz f w))), some (.int (nI (tf_pt f w))), some (.int (nI 0))] [] := by
          have hin : ∀ j, j < tf_sz f w → k + j < f 364 := by
            intro j hj
            have := tf_wd_in hg (i := k) c2
            rw [hw] at this
            omega
          have iloop : ∀ (i j z : Nat), j + i = tf_sz f w → z + tf_ti f h b t k (tf_pt f w) i j = y + tf_ti f h b t k (tf_pt f w) (tf_sz f w) 0 → tf_K x 0 0 G S 96 [some (.ref o), some (.int (nI h)), some (.int (nI b)), some (.int (nI t)), some (.int (nI z)), some (.int (nI k)), some (.int (tf_on 10 w)), some (.int (nI (tf_sz f w))), some (.int (nI (tf_pt f w))), some (.int (nI j))] [] := by
            intro i
            induction i with
            | zero =>
              intro j z hj hz
              refine tf_go hx ftX11_timeOf 2 [] 100 [some (.ref o), some (.int (nI h)), some (.int (nI b)), some (.int (nI t)), some (.int (nI z)), some (.int (nI k)), some (.int (tf_on 10 w)), some (.int (nI (tf_sz f w))), some (.int (nI (tf_pt f w))), some (.int (nI j))] [.int (nI (tf_sz f w)), .int (nI j)] S rfl ⟨by decide, by decide, rfl⟩ trivial ?_
              refine tf_go hx ftX11_timeOf 6 [true] 6 [some (.ref o), some (.int (nI h)), some (.int (nI b)), some (.int (nI t)), some (.int (nI z)), some (.int ((nI k) + (nI (tf_sz f w)))), some (.int (tf_on 10 w)), some (.int (nI (tf_sz f w))), some (.int (nI (tf_pt f w))), some (.int (nI j))] [] S rfl ⟨by decide, by decide, rfl⟩ ⟨trivial, (tf_leT (a := (tf_sz f w)) (b := j) rfl rfl (by have := hb w; omega) (by have := hb w; omega) (by have := hb w; omega))⟩ ?_
              rw [show ((nI k) + (nI (tf_sz f w))) = nI (k + (tf_sz f w)) from (tf_add rfl rfl)]
              refine tf_fgt [some (.ref o), some (.int (nI h)), some (.int (nI b)), some (.int (nI t)), some (.int (nI z)), some (.int (nI (k + tf_sz f w))), none, none, none, none] (by simp [tf_lss]) ?_
              exact ih (k + tf_sz f w) z (by omega) (by have h0 : tf_ti f h b t k (tf_pt f w) 0 j = 0 := rfl; omega) (by omega)
            | succ i ihj =>
              intro j z hj hz
              rw [tf_ti_s] at hz
              have j1 := hin j (by omega)
              refine tf_go hx ftX11_timeOf 2 [] 100 [some (.ref o), some (.int (nI h)), some (.int (nI b)), some (.int (nI t)), some (.int (nI z)), some (.int (nI k)), some (.int (tf_on 10 w)), some (.int (nI (tf_sz f w))), some (.int (nI (tf_pt f w))), some (.int (nI j))] [.int (nI (tf_sz f w)), .int (nI j)] S rfl ⟨by decide, by decide, rfl⟩ trivial ?_
              refine tf_go hx ftX11_timeOf 1 [false] 103 [some (.ref o), some (.int (nI h)), some (.int (nI b)), some (.int (nI t)), some (.int (nI z)), some (.int (nI k)), some (.int (tf_on 10 w)), some (.int (nI (tf_sz f w))), some (.int (nI (tf_pt f w))), some (.int (nI j))] [] S rfl ⟨by decide, by decide, rfl⟩ ⟨trivial, (tf_leF (a := (tf_sz f w)) (b := j) rfl rfl (by have := hb w; omega) (by have := hb w; omega) (by have := hb w; omega))⟩ ?_
              refine tf_go hx ftX11_timeOf 2 [] 107 [some (.ref o), some (.int (nI h)), some (.int (nI b)), some (.int (nI t)), some (.int (nI z)), some (.int (nI k)), some (.int (tf_on 10 w)), some (.int (nI (tf_sz f w))), some (.int (nI (tf_pt f w))), some (.int (nI j))] [.int (nI j), .int (nI z)] S rfl ⟨by decide, by decide, rfl⟩ trivial ?_
              by_cases c3 : j = 0
              · rw [if_pos c3] at hz
                refine tf_go hx ftX11_timeOf 6 [false] 116 [some (.ref o), some (.int (nI h)), some (.int (nI b)), some (.int (nI t)), some (.int (nI z)), some (.int (nI k)), some (.int (tf_on 10 w)), some (.int (nI (tf_sz f w))), some (.int (nI (tf_pt f w))), some (.int (nI j))] [.int (nI t), .int (nI k), .int (nI b), .int (nI h), .ref o, .int (nI z)] S rfl ⟨by decide, by decide, rfl⟩ ⟨trivial, (tf_neF (a := j) (b := 0) rfl (rfl : (0 : Int32) = nI 0) (by omega))⟩ ?_
                refine tf_cV hx ftX11_timeOf (nx := 119) (As := [.int (nI h), .int (nI b), .int (nI k), .int (nI t)]) (rest := [.int (nI z)]) (st2 := [.int (nI (tf_gt f h b k t)), .int (nI z)]) (m_gapAt h b k t ho hf hg hh hbb c2 ht) rfl lX11_89 (by first | assumption | rfl | decide) rfl ⟨rfl, by decide, by decide, by decide, rfl, rfl⟩ ?_
                refine tf_go hx ftX11_timeOf 5 [] 96 [some (.ref o), some (.int (nI h)), some (.int (nI b)), some (.int (nI t)), some (.int ((nI z) + (nI (tf_gt f h b k t)))), some (.int (nI k)), some (.int (tf_on 10 w)), some (.int (nI (tf_sz f w))), some (.int (nI (tf_pt f w))), some (.int ((nI j) + 1))] [] S rfl ⟨by decide, by decide, rfl⟩ trivial ?_
                rw [show ((nI z) + (nI (tf_gt f h b k t))) = nI (z + (tf_gt f h b k t)) from (tf_add rfl rfl)]
                rw [show ((nI j) + 1) = nI (j + 1) from (tf_add rfl (rfl : (1 : Int32) = nI 1))]
                exact ihj (j + 1) (z + tf_gt f h b k t) (by omega) (by omega)
              · rw [if_neg c3] at hz
                have m1 := Nat.mul_le_mul (tf_gt_le hg (b := b) (i := k + j) (t := t) hh) p1
                refine tf_go hx ftX11_timeOf 8 [true] 131 [some (.ref o), some (.int (nI h)), some (.int (nI b)), some (.int (nI t)), some (.int (nI z)), some (.int (nI k)), some (.int (tf_on 10 w)), some (.int (nI (tf_sz f w))), some (.int (nI (tf_pt f w))), some (.int (nI j))] [.int (nI t), .int ((nI k) + (nI j)), .int (nI b), .int (nI h), .ref o, .int (nI z)] S rfl ⟨by decide, by decide, rfl⟩ ⟨trivial, (tf_eqF (a := j) (b := 0) rfl (rfl : (0 : Int32) = nI 0) (by omega) (by omega) (by omega))⟩ ?_
                rw [show ((nI k) + (nI j)) = nI (k + j) from (tf_add rfl rfl)]
                refine tf_cV hx ftX11_timeOf (nx := 134) (As := [.int (nI h), .int (nI b), .int (nI (k + j)), .int (nI t)]) (rest := [.int (nI z)]) (st2 := [.int (nI (tf_gt f h b (k + j) t)), .int (nI z)]) (m_gapAt h b (k + j) t ho hf hg hh hbb j1 ht) rfl lX11_89 (by first | assumption | rfl | decide) rfl ⟨rfl, by decide, by decide, by decide, rfl, rfl⟩ ?_
                refine tf_go hx ftX11_timeOf 8 [] 96 [some (.ref o), some (.int (nI h)), some (.int (nI b)), some (.int (nI t)), some (.int ((nI z) + (((nI (tf_gt f h b (k + j) t)) * (nI (tf_pt f w))) / 100))), some (.int (nI k)), some (.int (tf_on 10 w)), some (.int (nI (tf_sz f w))), some (.int (nI (tf_pt f w))), some (.int ((nI j) + 1))] [] S rfl ⟨by decide, by decide, rfl⟩ ⟨trivial, (by decide)⟩ ?_
                rw [show ((nI z) + (((nI (tf_gt f h b (k + j) t)) * (nI (tf_pt f w))) / 100)) = nI (z + (((tf_gt f h b (k + j) t) * (tf_pt f w)) / 100)) from (tf_add rfl (tf_div (tf_mul rfl rfl) (rfl : (100 : Int32) = nI 100) (by have := hb h; have := hb w; omega) (by decide) (by decide)))]
                rw [show ((nI j) + 1) = nI (j + 1) from (tf_add rfl (rfl : (1 : Int32) = nI 1))]
                exact ihj (j + 1) (z + tf_gt f h b (k + j) t * tf_pt f w / 100) (by omega) (by omega)
          exact iloop (tf_sz f w) 0 y (by omega) (by omega)
        by_cases c4 : w < 10
        · have hpt : tf_pt f w = 100 - 5 * (if f (224 + 10 * w + 1) ≤ 10 then f (224 + 10 * w + 1) else 10) := by unfold tf_pt; rw [if_pos c4]
          rw [tf_on_y c4] at inner ⊢
          refine tf_go hx ftX11_timeOf 4 [] 41 [some (.ref o), some (.int (nI h)), some (.int (nI b)), some (.int (nI t)), some (.int (nI y)), some (.int (nI k)), some (.int (nI w)), some (.int (nI (tf_sz f w))), some (.int 100), none] [.int (nI w)] S rfl ⟨by decide, by decide, rfl⟩ trivial ?_
          refine tf_go hx ftX11_timeOf 1 [false] 44 [some (.ref o), some (.int (nI h)), some (.int (nI b)), some (.int (nI t)), some (.int (nI y)), some (.int (nI k)), some (.int (nI w)), some (.int (nI (tf_sz f w))), some (.int 100), none] [] S rfl ⟨by decide, by decide, rfl⟩ ⟨trivial, (tf_ltF (a := w) (b := 0) rfl (rfl : (0 : Int32) = nI 0) (by omega) (by omega) (by omega))⟩ ?_
          refine tf_go hx ftX11_timeOf 13 [] 65 [some (.ref o), some (.int (nI h)), some (.int (nI b)), some (.int (nI t)), some (.int (nI y)), some (.int (nI k)), some (.int (nI w)), some (.int (nI (tf_sz f w))), some (.int 100), none] [.int 10, .int (S (tf_rf G o 1) (Int32.toNatClampNeg ((224 + (10 * (nI w))) + 1))), .int 5, .int 100] S rfl ⟨by decide, by decide, rfl⟩ ⟨⟨trivial, ⟨by first | assumption | rfl | decide | omega, by first | assumption | rfl | decide | omega⟩⟩, ⟨Or.inl (by first | assumption | rfl | decide | omega), by first | assumption | exact tf_in (n := ((224 + (10 * w)) + 1)) (tf_add (tf_add (rfl : (224 : Int32) = nI 224) (tf_mul (rfl : (10 : Int32) = nI 10) rfl)) (rfl : (1 : Int32) = nI 1)) (by first | assumption | rfl) (by omega) (by decide)⟩⟩ ?_
          rw [show (S (tf_rf G o 1) (Int32.toNatClampNeg ((224 + (10 * (nI w))) + 1))) = nI (f ((224 + (10 * w)) + 1)) from (tf_rd hs (tf_add (tf_add (rfl : (224 : Int32) = nI 224) (tf_mul (rfl : (10 : Int32) = nI 10) rfl)) (rfl : (1 : Int32) = nI 1)) (by omega))]
          by_cases c5 : f (224 + 10 * w + 1) ≤ 10
          · rw [if_pos c5] at hpt
            refine tf_go hx ftX11_timeOf 16 [true] 96 [some (.ref o), some (.int (nI h)), some (.int (nI b)), some (.int (nI t)), some (.int (nI y)), some (.int (nI k)), some (.int (nI w)), some (.int (nI (tf_sz f w))), some (.int (100 - (5 * (S (tf_rf G o 1) (Int32.toNatClampNeg ((224 + (10 * (nI w))) + 1)))))), some (.int 0)] [] S rfl ⟨by decide, by decide, rfl⟩ ⟨⟨⟨trivial, (tf_leT (a := (f ((224 + (10 * w)) + 1))) (b := 10) rfl (rfl : (10 : Int32) = nI 10) (by have := hb ((224 + (10 * w)) + 1); omega) (by have := hb ((224 + (10 * w)) + 1); omega) (by have := hb ((224 + (10 * w)) + 1); omega))⟩, ⟨by first | assumption | rfl | decide | omega, by first | assumption | rfl | decide | omega⟩⟩, ⟨Or.inl (by first | assumption | rfl | decide | omega), by first | assumption | exact tf_in (n := ((224 + (10 * w)) + 1)) (tf_add (tf_add (rfl : (224 : Int32) = nI 224) (tf_mul (rfl : (10 : Int32) = nI 10) rfl)) (rfl : (1 : Int32) = nI 1)) (by first | assumption | rfl) (by omega) (by decide)⟩⟩ ?_
            rw [show (100 - (5 * (S (tf_rf G o 1) (Int32.toNatClampNeg ((224 + (10 * (nI w))) + 1))))) = nI (100 - (5 * (f ((224 + (10 * w)) + 1)))) from (tf_sub (rfl : (100 : Int32) = nI 100) (tf_mul (rfl : (5 : Int32) = nI 5) (tf_rd hs (tf_add (tf_add (rfl : (224 : Int32) = nI 224) (tf_mul (rfl : (10 : Int32) = nI 10) rfl)) (rfl : (1 : Int32) = nI 1)) (by omega))) (by have := hb ((224 + (10 * w)) + 1); omega))]
            rw [hpt] at inner
            exact inner
          · rw [if_neg c5] at hpt
            refine tf_go hx ftX11_timeOf 8 [false] 96 [some (.ref o), some (.int (nI h)), some (.int (nI b)), some (.int (nI t)), some (.int (nI y)), some (.int (nI k)), some (.int (nI w)), some (.int (nI (tf_sz f w))), some (.int (100 - (5 * 10))), some (.int 0)] [] S rfl ⟨by decide, by decide, rfl⟩ ⟨trivial, (tf_leF (a := (f ((224 + (10 * w)) + 1))) (b := 10) rfl (rfl : (10 : Int32) = nI 10) (by have := hb ((224 + (10 * w)) + 1); omega) (by have := hb ((224 + (10 * w)) + 1); omega) (by have := hb ((224 + (10 * w)) + 1); omega))⟩ ?_
            rw [show (100 - (5 * 10)) = nI (100 - (5 * 10)) from (tf_sub (rfl : (100 : Int32) = nI 100) (tf_mul (rfl : (5 : Int32) = nI 5) (rfl : (10 : Int32) = nI 10)) (by omega))]
            rw [hpt] at inner
            exact inner
        · have hpt : tf_pt f w = 100 := by unfold tf_pt; rw [if_neg c4]
          rw [tf_on_n c4] at inner ⊢
          refine tf_go hx ftX11_timeOf 4 [] 41 [some (.ref o), some (.int (nI h)), some (.int (nI b)), some (.int (nI t)), some (.int (nI y)), some (.int (nI k)), some (.int (-9)), some (.int (nI (tf_sz f w))), some (.int 100), none] [.int (-9)] S rfl ⟨by decide, by decide, rfl⟩ trivial ?_
          refine tf_go hx ftX11_timeOf 3 [true] 96 [some (.ref o), some (.int (nI h)), some (.int (nI b)), some (.int (nI t)), some (.int (nI y)), some (.int (nI k)), some (.int (-9)), some (.int (nI (tf_sz f w))), some (.int 100), some (.int 0)] [] S rfl ⟨by decide, by decide, rfl⟩ ⟨trivial, (by decide)⟩ ?_
          rw [hpt] at inner
          exact inner
      · refine tf_go hx ftX11_timeOf 2 [true] 161 [some (.ref o), some (.int (nI h)), some (.int (nI b)), some (.int (nI t)), some (.int (nI y)), some (.int (nI k)), none, none, none, none] [.int (nI y)] S rfl ⟨by decide, by decide, rfl⟩ ⟨trivial, (tf_leT (a := (f 364)) (b := k) rfl rfl (by have := hb 364; omega) (by have := hb 364; omega) (by have := hb 364; omega))⟩ ?_
        exact tf_ret ftX11_timeOf hR rfl ⟨by decide, by decide⟩ rfl rfl (by rw [if_neg c2] at he; rw [← he]; rfl)
  exact loop 40 0 0 (by omega) (by omega) (by omega)

