def fX6 : tf_F := [(40, 101, 0)]
set_option maxRecDepth 100000 in
theorem okfX6 : tf_okF RX6 fX6 := by unfold tf_okF; decide +kernel

def tX6_firstUnlike : tf_T := [(0, .aload_n 0, 1, 0, 0),
  (1, .invokevirtual 34, 4, 0, 0),
  (4, .aload_n 1, 5, 0, 0),
  (5, .invokevirtual 34, 8, 0, 0),
  (8, .invokestatic 40, 11, 0, 0),
  (11, .istore_n 2, 12, 0, 0),
  (12, .iconst 0, 13, 0, 0),
  (13, .istore_n 3, 14, 0, 0),
  (14, .iload_n 3, 15, 0, 0),
  (15, .iload_n 2, 16, 0, 0),
  (16, .if_icmp .ge 24, 19, 40, 0),
  (19, .aload_n 0, 20, 0, 0),
  (20, .iload_n 3, 21, 0, 0),
  (21, .invokevirtual 46, 24, 0, 0),
  (24, .aload_n 1, 25, 0, 0),
  (25, .iload_n 3, 26, 0, 0),
  (26, .invokevirtual 46, 29, 0, 0),
  (29, .if_icmp .eq 5, 32, 34, 0),
  (32, .iload_n 3, 33, 0, 0),
  (33, .ireturn, 34, 0, 0),
  (34, .iinc 3 1, 37, 0, 1),
  (37, .goto (-23), 40, 14, 0),
  (40, .iload_n 2, 41, 0, 0),
  (41, .ireturn, 42, 0, 0)]
set_option maxRecDepth 100000 in
theorem okX6_firstUnlike : tf_okT cX6_firstUnlike tX6_firstUnlike := by unfold tf_okT; decide +kernel
theorem ftX6_firstUnlike : 1 ≤ 2 ∧ tf_okF RX6 fX6 ∧ tf_okT cX6_firstUnlike tX6_firstUnlike := ⟨by decide, okfX6, okX6_firstUnlike⟩
def mX6_firstUnlike : tf_M := (yX6_firstUnlike, cX6_firstUnlike, 4, (some .int))

def tX6_sameRest : tf_T := [(0, .aload_n 0, 1, 0, 0),
  (1, .invokevirtual 34, 4, 0, 0),
  (4, .iload_n 1, 5, 0, 0),
  (5, .isub, 6, 0, 0),
  (6, .istore 4, 8, 0, 0),
  (8, .aload_n 2, 9, 0, 0),
  (9, .invokevirtual 34, 12, 0, 0),
  (12, .iload_n 3, 13, 0, 0),
  (13, .isub, 14, 0, 0),
  (14, .iload 4, 16, 0, 0),
  (16, .if_icmp .eq 5, 19, 21, 0),
  (19, .iconst 0, 20, 0, 0),
  (20, .ireturn, 21, 0, 0),
  (21, .iconst 0, 22, 0, 0),
  (22, .istore 5, 24, 0, 0),
  (24, .iload 5, 26, 0, 0),
  (26, .iload 4, 28, 0, 0),
  (28, .if_icmp .ge 30, 31, 58, 0),
  (31, .aload_n 0, 32, 0, 0),
  (32, .iload_n 1, 33, 0, 0),
  (33, .iload 5, 35, 0, 0),
  (35, .iadd, 36, 0, 0),
  (36, .invokevirtual 46, 39, 0, 0),
  (39, .aload_n 2, 40, 0, 0),
  (40, .iload_n 3, 41, 0, 0),
  (41, .iload 5, 43, 0, 0),
  (43, .iadd, 44, 0, 0),
  (44, .invokevirtual 46, 47, 0, 0),
  (47, .if_icmp .eq 5, 50, 52, 0),
  (50, .iconst 0, 51, 0, 0),
  (51, .ireturn, 52, 0, 0),
  (52, .iinc 5 1, 55, 0, 1),
  (55, .goto (-31), 58, 24, 0),
  (58, .iconst 1, 59, 0, 1),
  (59, .ireturn, 60, 0, 0)]
set_option maxRecDepth 100000 in
theorem okX6_sameRest : tf_okT cX6_sameRest tX6_sameRest := by unfold tf_okT; decide +kernel
theorem ftX6_sameRest : 1 ≤ 2 ∧ tf_okF RX6 fX6 ∧ tf_okT cX6_sameRest tX6_sameRest := ⟨by decide, okfX6, okX6_sameRest⟩
def mX6_sameRest : tf_M := (yX6_sameRest, cX6_sameRest, 6, (some .boolean))

def tX6_slipPlace : tf_T := [(0, .aload_n 0, 1, 0, 0),
  (1, .aload_n 1, 2, 0, 0),
  (2, .invokestatic 50, 5, 0, 0),
  (5, .istore_n 2, 6, 0, 0),
  (6, .iload_n 2, 7, 0, 0),
  (7, .aload_n 0, 8, 0, 0),
  (8, .invokevirtual 34, 11, 0, 0),
  (11, .if_icmp .ge 39, 14, 50, 0),
  (14, .iload_n 2, 15, 0, 0),
  (15, .aload_n 1, 16, 0, 0),
  (16, .invokevirtual 34, 19, 0, 0),
  (19, .if_icmp .ge 31, 22, 50, 0),
  (22, .aload_n 1, 23, 0, 0),
  (23, .iload_n 2, 24, 0, 0),
  (24, .invokevirtual 46, 27, 0, 0),
  (27, .bipush 26, 29, 0, 26),
  (29, .if_icmp .eq 21, 32, 50, 0),
  (32, .aload_n 0, 33, 0, 0),
  (33, .iload_n 2, 34, 0, 0),
  (34, .iconst 1, 35, 0, 1),
  (35, .iadd, 36, 0, 0),
  (36, .aload_n 1, 37, 0, 0),
  (37, .iload_n 2, 38, 0, 0),
  (38, .iconst 1, 39, 0, 1),
  (39, .iadd, 40, 0, 0),
  (40, .invokestatic 53, 43, 0, 0),
  (43, .ifCond .eq 7, 46, 50, 0),
  (46, .iconst 1, 47, 0, 1),
  (47, .goto 4, 50, 51, 0),
  (50, .iconst 0, 51, 0, 0),
  (51, .istore_n 3, 52, 0, 0),
  (52, .iload_n 3, 53, 0, 0),
  (53, .ifCond .eq 7, 56, 60, 0),
  (56, .iload_n 2, 57, 0, 0),
  (57, .goto 5, 60, 62, 0),
  (60, .bipush (-9), 62, 0, (-9)),
  (62, .ireturn, 63, 0, 0)]
set_option maxRecDepth 100000 in
theorem okX6_slipPlace : tf_okT cX6_slipPlace tX6_slipPlace := by unfold tf_okT; decide +kernel
theorem ftX6_slipPlace : 1 ≤ 3 ∧ tf_okF RX6 fX6 ∧ tf_okT cX6_slipPlace tX6_slipPlace := ⟨by decide, okfX6, okX6_slipPlace⟩
def mX6_slipPlace : tf_M := (yX6_slipPlace, cX6_slipPlace, 4, (some .int))

def tX6_swappedPlace : tf_T := [(0, .aload_n 0, 1, 0, 0),
  (1, .aload_n 1, 2, 0, 0),
  (2, .invokestatic 50, 5, 0, 0),
  (5, .istore_n 2, 6, 0, 0),
  (6, .iload_n 2, 7, 0, 0),
  (7, .iconst 1, 8, 0, 1),
  (8, .iadd, 9, 0, 0),
  (9, .aload_n 0, 10, 0, 0),
  (10, .invokevirtual 34, 13, 0, 0),
  (13, .if_icmp .ge 61, 16, 74, 0),
  (16, .iload_n 2, 17, 0, 0),
  (17, .iconst 1, 18, 0, 1),
  (18, .iadd, 19, 0, 0),
  (19, .aload_n 1, 20, 0, 0),
  (20, .invokevirtual 34, 23, 0, 0),
  (23, .if_icmp .ge 51, 26, 74, 0),
  (26, .aload_n 1, 27, 0, 0),
  (27, .iload_n 2, 28, 0, 0),
  (28, .invokevirtual 46, 31, 0, 0),
  (31, .aload_n 0, 32, 0, 0),
  (32, .iload_n 2, 33, 0, 0),
  (33, .iconst 1, 34, 0, 1),
  (34, .iadd, 35, 0, 0),
  (35, .invokevirtual 46, 38, 0, 0),
  (38, .if_icmp .ne 36, 41, 74, 0),
  (41, .aload_n 1, 42, 0, 0),
  (42, .iload_n 2, 43, 0, 0),
  (43, .iconst 1, 44, 0, 1),
  (44, .iadd, 45, 0, 0),
  (45, .invokevirtual 46, 48, 0, 0),
  (48, .aload_n 0, 49, 0, 0),
  (49, .iload_n 2, 50, 0, 0),
  (50, .invokevirtual 46, 53, 0, 0),
  (53, .if_icmp .ne 21, 56, 74, 0),
  (56, .aload_n 0, 57, 0, 0),
  (57, .iload_n 2, 58, 0, 0),
  (58, .iconst 2, 59, 0, 2),
  (59, .iadd, 60, 0, 0),
  (60, .aload_n 1, 61, 0, 0),
  (61, .iload_n 2, 62, 0, 0),
  (62, .iconst 2, 63, 0, 2),
  (63, .iadd, 64, 0, 0),
  (64, .invokestatic 53, 67, 0, 0),
  (67, .ifCond .eq 7, 70, 74, 0),
  (70, .iconst 1, 71, 0, 1),
  (71, .goto 4, 74, 75, 0),
  (74, .iconst 0, 75, 0, 0),
  (75, .istore_n 3, 76, 0, 0),
  (76, .iload_n 3, 77, 0, 0),
  (77, .ifCond .eq 7, 80, 84, 0),
  (80, .iload_n 2, 81, 0, 0),
  (81, .goto 5, 84, 86, 0),
  (84, .bipush (-9), 86, 0, (-9)),
  (86, .ireturn, 87, 0, 0)]
set_option maxRecDepth 100000 in
theorem okX6_swappedPlace : tf_okT cX6_swappedPlace tX6_swappedPlace := by unfold tf_okT; decide +kernel
theorem ftX6_swappedPlace : 1 ≤ 3 ∧ tf_okF RX6 fX6 ∧ tf_okT cX6_swappedPlace tX6_swappedPlace := ⟨by decide, okfX6, okX6_swappedPlace⟩
def mX6_swappedPlace : tf_M := (yX6_swappedPlace, cX6_swappedPlace, 4, (some .int))

def tX6_doubledPlace : tf_T := [(0, .aload_n 0, 1, 0, 0),
  (1, .aload_n 1, 2, 0, 0),
  (2, .invokestatic 9, 5, 0, 0),
  (5, .istore_n 2, 6, 0, 0),
  (6, .iload_n 2, 7, 0, 0),
  (7, .iconst 1, 8, 0, 1),
  (8, .if_icmp .lt 13, 11, 21, 0),
  (11, .iload_n 2, 12, 0, 0),
  (12, .iconst 1, 13, 0, 1),
  (13, .iadd, 14, 0, 0),
  (14, .aload_n 0, 15, 0, 0),
  (15, .invokevirtual 34, 18, 0, 0),
  (18, .if_icmp .lt 6, 21, 24, 0),
  (21, .bipush (-9), 23, 0, (-9)),
  (23, .ireturn, 24, 0, 0),
  (24, .aload_n 0, 25, 0, 0),
  (25, .iload_n 2, 26, 0, 0),
  (26, .invokevirtual 46, 29, 0, 0),
  (29, .istore_n 3, 30, 0, 0),
  (30, .aload_n 1, 31, 0, 0),
  (31, .iload_n 2, 32, 0, 0),
  (32, .invokevirtual 46, 35, 0, 0),
  (35, .istore 4, 37, 0, 0),
  (37, .aload_n 0, 38, 0, 0),
  (38, .iload_n 2, 39, 0, 0),
  (39, .iconst 1, 40, 0, 1),
  (40, .isub, 41, 0, 0),
  (41, .invokevirtual 46, 44, 0, 0),
  (44, .istore 5, 46, 0, 0),
  (46, .aload_n 0, 47, 0, 0),
  (47, .iload_n 2, 48, 0, 0),
  (48, .iconst 1, 49, 0, 1),
  (49, .iadd, 50, 0, 0),
  (50, .invokevirtual 46, 53, 0, 0),
  (53, .istore 6, 55, 0, 0),
  (55, .iload 5, 57, 0, 0),
  (57, .iload_n 3, 58, 0, 0),
  (58, .if_icmp .ne 10, 61, 68, 0),
  (61, .iload 6, 63, 0, 0),
  (63, .iload 4, 65, 0, 0),
  (65, .if_icmp .eq 16, 68, 81, 0),
  (68, .iload 5, 70, 0, 0),
  (70, .iload 4, 72, 0, 0),
  (72, .if_icmp .ne 13, 75, 85, 0),
  (75, .iload 6, 77, 0, 0),
  (77, .iload_n 3, 78, 0, 0),
  (78, .if_icmp .ne 7, 81, 85, 0),
  (81, .iconst 1, 82, 0, 1),
  (82, .goto 4, 85, 86, 0),
  (85, .iconst 0, 86, 0, 0),
  (86, .istore 7, 88, 0, 0),
  (88, .iload 7, 90, 0, 0),
  (90, .ifCond .eq 9, 93, 99, 0),
  (93, .iload_n 2, 94, 0, 0),
  (94, .iconst 1, 95, 0, 1),
  (95, .isub, 96, 0, 0),
  (96, .goto 5, 99, 101, 0),
  (99, .bipush (-9), 101, 0, (-9)),
  (101, .ireturn, 102, 0, 0)]
set_option maxRecDepth 100000 in
theorem okX6_doubledPlace : tf_okT cX6_doubledPlace tX6_doubledPlace := by unfold tf_okT; decide +kernel
theorem ftX6_doubledPlace : 1 ≤ 4 ∧ tf_okF RX6 fX6 ∧ tf_okT cX6_doubledPlace tX6_doubledPlace := ⟨by decide, okfX6, okX6_doubledPlace⟩
def mX6_doubledPlace : tf_M := (yX6_doubledPlace, cX6_doubledPlace, 8, (some .int))

def tX6_keyPlace : tf_T := [(0, .aload_n 1, 1, 0, 0),
  (1, .aload_n 2, 2, 0, 0),
  (2, .invokestatic 9, 5, 0, 0),
  (5, .istore 4, 7, 0, 0),
  (7, .aload_n 3, 8, 0, 0),
  (8, .aload_n 1, 9, 0, 0),
  (9, .iload 4, 11, 0, 0),
  (11, .invokevirtual 46, 14, 0, 0),
  (14, .invokevirtual 57, 17, 0, 0),
  (17, .istore 5, 19, 0, 0),
  (19, .aload_n 3, 20, 0, 0),
  (20, .aload_n 2, 21, 0, 0),
  (21, .iload 4, 23, 0, 0),
  (23, .invokevirtual 46, 26, 0, 0),
  (26, .invokevirtual 57, 29, 0, 0),
  (29, .istore 6, 31, 0, 0),
  (31, .iload 4, 33, 0, 0),
  (33, .ifCond .lt 19, 36, 52, 0),
  (36, .iload 5, 38, 0, 0),
  (38, .invokestatic 62, 41, 0, 0),
  (41, .ifCond .ne 11, 44, 52, 0),
  (44, .iload 6, 46, 0, 0),
  (46, .invokestatic 62, 49, 0, 0),
  (49, .ifCond .eq 6, 52, 55, 0),
  (52, .bipush (-9), 54, 0, (-9)),
  (54, .ireturn, 55, 0, 0),
  (55, .iload_n 0, 56, 0, 0),
  (56, .iconst 3, 57, 0, 3),
  (57, .if_icmp .ne 13, 60, 70, 0),
  (60, .iload 5, 62, 0, 0),
  (62, .iload 6, 64, 0, 0),
  (64, .invokestatic 66, 67, 0, 0),
  (67, .goto 10, 70, 77, 0),
  (70, .iload 5, 72, 0, 0),
  (72, .iload 6, 74, 0, 0),
  (74, .invokestatic 72, 77, 0, 0),
  (77, .istore 7, 79, 0, 0),
  (79, .iload 7, 81, 0, 0),
  (81, .ifCond .eq 8, 84, 89, 0),
  (84, .iload 4, 86, 0, 0),
  (86, .goto 5, 89, 91, 0),
  (89, .bipush (-9), 91, 0, (-9)),
  (91, .ireturn, 92, 0, 0)]
set_option maxRecDepth 100000 in
theorem okX6_keyPlace : tf_okT cX6_keyPlace tX6_keyPlace := by unfold tf_okT; decide +kernel
theorem ftX6_keyPlace : 1 ≤ 4 ∧ tf_okF RX6 fX6 ∧ tf_okT cX6_keyPlace tX6_keyPlace := ⟨by decide, okfX6, okX6_keyPlace⟩
def mX6_keyPlace : tf_M := (yX6_keyPlace, cX6_keyPlace, 8, (some .int))

def tX6_earlyPlace : tf_T := [(0, .aload_n 0, 1, 0, 0),
  (1, .aload_n 1, 2, 0, 0),
  (2, .invokestatic 9, 5, 0, 0),
  (5, .istore_n 2, 6, 0, 0),
  (6, .iload_n 2, 7, 0, 0),
  (7, .ifCond .ge 6, 10, 13, 0),
  (10, .bipush (-9), 12, 0, (-9)),
  (12, .ireturn, 13, 0, 0),
  (13, .aload_n 1, 14, 0, 0),
  (14, .iload_n 2, 15, 0, 0),
  (15, .invokevirtual 46, 18, 0, 0),
  (18, .aload_n 0, 19, 0, 0),
  (19, .iload_n 2, 20, 0, 0),
  (20, .iconst 1, 21, 0, 1),
  (21, .iadd, 22, 0, 0),
  (22, .invokevirtual 46, 25, 0, 0),
  (25, .if_icmp .eq 18, 28, 43, 0),
  (28, .aload_n 1, 29, 0, 0),
  (29, .iload_n 2, 30, 0, 0),
  (30, .invokevirtual 46, 33, 0, 0),
  (33, .aload_n 0, 34, 0, 0),
  (34, .iload_n 2, 35, 0, 0),
  (35, .iconst 2, 36, 0, 2),
  (36, .iadd, 37, 0, 0),
  (37, .invokevirtual 46, 40, 0, 0),
  (40, .if_icmp .ne 7, 43, 47, 0),
  (43, .iconst 1, 44, 0, 1),
  (44, .goto 4, 47, 48, 0),
  (47, .iconst 0, 48, 0, 0),
  (48, .istore_n 3, 49, 0, 0),
  (49, .iload_n 3, 50, 0, 0),
  (50, .ifCond .eq 7, 53, 57, 0),
  (53, .iload_n 2, 54, 0, 0),
  (54, .goto 5, 57, 59, 0),
  (57, .bipush (-9), 59, 0, (-9)),
  (59, .ireturn, 60, 0, 0)]
set_option maxRecDepth 100000 in
theorem okX6_earlyPlace : tf_okT cX6_earlyPlace tX6_earlyPlace := by unfold tf_okT; decide +kernel
theorem ftX6_earlyPlace : 1 ≤ 4 ∧ tf_okF RX6 fX6 ∧ tf_okT cX6_earlyPlace tX6_earlyPlace := ⟨by decide, okfX6, okX6_earlyPlace⟩
def mX6_earlyPlace : tf_M := (yX6_earlyPlace, cX6_earlyPlace, 4, (some .int))

def tX6_lostPlace : tf_T := [(0, .aload_n 0, 1, 0, 0),
  (1, .aload_n 1, 2, 0, 0),
  (2, .invokestatic 50, 5, 0, 0),
  (5, .istore_n 2, 6, 0, 0),
  (6, .iload_n 2, 7, 0, 0),
  (7, .aload_n 0, 8, 0, 0),
  (8, .invokevirtual 34, 11, 0, 0),
  (11, .if_icmp .ge 15, 14, 26, 0),
  (14, .aload_n 0, 15, 0, 0),
  (15, .iload_n 2, 16, 0, 0),
  (16, .iconst 1, 17, 0, 1),
  (17, .iadd, 18, 0, 0),
  (18, .aload_n 1, 19, 0, 0),
  (19, .iload_n 2, 20, 0, 0),
  (20, .invokestatic 53, 23, 0, 0),
  (23, .ifCond .ne 6, 26, 29, 0),
  (26, .bipush (-9), 28, 0, (-9)),
  (28, .ireturn, 29, 0, 0),
  (29, .iload_n 2, 30, 0, 0),
  (30, .istore_n 3, 31, 0, 0),
  (31, .iload_n 2, 32, 0, 0),
  (32, .iconst 1, 33, 0, 1),
  (33, .isub, 34, 0, 0),
  (34, .istore 4, 36, 0, 0),
  (36, .iload 4, 38, 0, 0),
  (38, .ifCond .lt 26, 41, 64, 0),
  (41, .aload_n 0, 42, 0, 0),
  (42, .iload 4, 44, 0, 0),
  (44, .invokevirtual 46, 47, 0, 0),
  (47, .aload_n 0, 48, 0, 0),
  (48, .iload_n 2, 49, 0, 0),
  (49, .invokevirtual 46, 52, 0, 0),
  (52, .if_icmp .ne 12, 55, 64, 0),
  (55, .iload 4, 57, 0, 0),
  (57, .istore_n 3, 58, 0, 0),
  (58, .iinc 4 (-1), 61, 0, (-1)),
  (61, .goto (-25), 64, 36, 0),
  (64, .iload_n 3, 65, 0, 0),
  (65, .ireturn, 66, 0, 0)]
set_option maxRecDepth 100000 in
theorem okX6_lostPlace : tf_okT cX6_lostPlace tX6_lostPlace := by unfold tf_okT; decide +kernel
theorem ftX6_lostPlace : 1 ≤ 3 ∧ tf_okF RX6 fX6 ∧ tf_okT cX6_lostPlace tX6_lostPlace := ⟨by decide, okfX6, okX6_lostPlace⟩
def mX6_lostPlace : tf_M := (yX6_lostPlace, cX6_lostPlace, 5, (some .int))

def tX6_caughtPlace : tf_T := [(0, .aload_n 0, 1, 0, 0),
  (1, .aload_n 1, 2, 0, 0),
  (2, .invokestatic 50, 5, 0, 0),
  (5, .istore_n 2, 6, 0, 0),
  (6, .iload_n 2, 7, 0, 0),
  (7, .aload_n 0, 8, 0, 0),
  (8, .invokevirtual 34, 11, 0, 0),
  (11, .if_icmp .ge 51, 14, 62, 0),
  (14, .iload_n 2, 15, 0, 0),
  (15, .iconst 1, 16, 0, 1),
  (16, .iadd, 17, 0, 0),
  (17, .aload_n 1, 18, 0, 0),
  (18, .invokevirtual 34, 21, 0, 0),
  (21, .if_icmp .ge 41, 24, 62, 0),
  (24, .aload_n 1, 25, 0, 0),
  (25, .iload_n 2, 26, 0, 0),
  (26, .invokevirtual 46, 29, 0, 0),
  (29, .bipush 26, 31, 0, 26),
  (31, .if_icmp .eq 31, 34, 62, 0),
  (34, .aload_n 1, 35, 0, 0),
  (35, .iload_n 2, 36, 0, 0),
  (36, .iconst 1, 37, 0, 1),
  (37, .iadd, 38, 0, 0),
  (38, .invokevirtual 46, 41, 0, 0),
  (41, .bipush 26, 43, 0, 26),
  (43, .if_icmp .ne 19, 46, 62, 0),
  (46, .aload_n 0, 47, 0, 0),
  (47, .iload_n 2, 48, 0, 0),
  (48, .aload_n 1, 49, 0, 0),
  (49, .iload_n 2, 50, 0, 0),
  (50, .iconst 2, 51, 0, 2),
  (51, .iadd, 52, 0, 0),
  (52, .invokestatic 53, 55, 0, 0),
  (55, .ifCond .eq 7, 58, 62, 0),
  (58, .iconst 1, 59, 0, 1),
  (59, .goto 4, 62, 63, 0),
  (62, .iconst 0, 63, 0, 0),
  (63, .istore_n 3, 64, 0, 0),
  (64, .iload_n 3, 65, 0, 0),
  (65, .ifCond .eq 7, 68, 72, 0),
  (68, .iload_n 2, 69, 0, 0),
  (69, .goto 5, 72, 74, 0),
  (72, .bipush (-9), 74, 0, (-9)),
  (74, .ireturn, 75, 0, 0)]
set_option maxRecDepth 100000 in
theorem okX6_caughtPlace : tf_okT cX6_caughtPlace tX6_caughtPlace := by unfold tf_okT; decide +kernel
theorem ftX6_caughtPlace : 1 ≤ 3 ∧ tf_okF RX6 fX6 ∧ tf_okT cX6_caughtPlace tX6_caughtPlace := ⟨by decide, okfX6, okX6_caughtPlace⟩
def mX6_caughtPlace : tf_M := (yX6_caughtPlace, cX6_caughtPlace, 4, (some .int))

def tX6_placeOf : tf_T := [(0, .iload_n 0, 1, 0, 0),
  (1, .tableswitch 91 0 7 #[47, 53, 59, 65, 65, 73, 79, 85], 48, 0, 0),
  (48, .aload_n 1, 49, 0, 0),
  (49, .aload_n 2, 50, 0, 0),
  (50, .invokestatic 9, 53, 0, 0),
  (53, .ireturn, 54, 0, 0),
  (54, .aload_n 1, 55, 0, 0),
  (55, .aload_n 2, 56, 0, 0),
  (56, .invokestatic 15, 59, 0, 0),
  (59, .ireturn, 60, 0, 0),
  (60, .aload_n 1, 61, 0, 0),
  (61, .aload_n 2, 62, 0, 0),
  (62, .invokestatic 18, 65, 0, 0),
  (65, .ireturn, 66, 0, 0),
  (66, .iload_n 0, 67, 0, 0),
  (67, .aload_n 1, 68, 0, 0),
  (68, .aload_n 2, 69, 0, 0),
  (69, .aload_n 3, 70, 0, 0),
  (70, .invokestatic 21, 73, 0, 0),
  (73, .ireturn, 74, 0, 0),
  (74, .aload_n 1, 75, 0, 0),
  (75, .aload_n 2, 76, 0, 0),
  (76, .invokestatic 25, 79, 0, 0),
  (79, .ireturn, 80, 0, 0),
  (80, .aload_n 1, 81, 0, 0),
  (81, .aload_n 2, 82, 0, 0),
  (82, .invokestatic 28, 85, 0, 0),
  (85, .ireturn, 86, 0, 0),
  (86, .aload_n 1, 87, 0, 0),
  (87, .aload_n 2, 88, 0, 0),
  (88, .invokestatic 31, 91, 0, 0),
  (91, .ireturn, 92, 0, 0),
  (92, .bipush (-9), 94, 0, (-9)),
  (94, .ireturn, 95, 0, 0)]
set_option maxRecDepth 100000 in
theorem okX6_placeOf : tf_okT cX6_placeOf tX6_placeOf := by unfold tf_okT; decide +kernel
theorem ftX6_placeOf : 1 ≤ 5 ∧ tf_okF RX6 fX6 ∧ tf_okT cX6_placeOf tX6_placeOf := ⟨by decide, okfX6, okX6_placeOf⟩
def mX6_placeOf : tf_M := (yX6_placeOf, cX6_placeOf, 4, (some .int))

set_option maxRecDepth 100000 in
theorem lX6_9 : tf_okS RX6 9 2 mX6_slipPlace := by unfold tf_okS tf_okL; decide +kernel

set_option maxRecDepth 100000 in
theorem lX6_15 : tf_okS RX6 15 2 mX6_swappedPlace := by unfold tf_okS tf_okL; decide +kernel

set_option maxRecDepth 100000 in
theorem lX6_18 : tf_okS RX6 18 2 mX6_doubledPlace := by unfold tf_okS tf_okL; decide +kernel

set_option maxRecDepth 100000 in
theorem lX6_21 : tf_okS RX6 21 4 mX6_keyPlace := by unfold tf_okS tf_okL; decide +kernel

set_option maxRecDepth 100000 in
theorem lX6_25 : tf_okS RX6 25 2 mX6_earlyPlace := by unfold tf_okS tf_okL; decide +kernel

set_option maxRecDepth 100000 in
theorem lX6_28 : tf_okS RX6 28 2 mX6_lostPlace := by unfold tf_okS tf_okL; decide +kernel

set_option maxRecDepth 100000 in
theorem lX6_31 : tf_okS RX6 31 2 mX6_caughtPlace := by unfold tf_okS tf_okL; decide +kernel

set_option maxRecDepth 100000 in
theorem lX6_34 : tf_okV RX6 34 0 3 mX5_size := by unfold tf_okV tf_okL; decide +kernel

set_option maxRecDepth 100000 in
theorem lX6_46 : tf_okV RX6 46 1 3 mX5_at := by unfold tf_okV tf_okL; decide +kernel

set_option maxRecDepth 100000 in
theorem lX6_50 : tf_okS RX6 50 2 mX6_firstUnlike := by unfold tf_okS tf_okL; decide +kernel

set_option maxRecDepth 100000 in
theorem lX6_53 : tf_okS RX6 53 4 mX6_sameRest := by unfold tf_okS tf_okL; decide +kernel

set_option maxRecDepth 100000 in
theorem lX6_57 : tf_okV RX6 57 1 0 mX0_keyAt := by unfold tf_okV tf_okL; decide +kernel

set_option maxRecDepth 100000 in
theorem lX6_62 : tf_okN RX6 62 1 mX10_noKey := by unfold tf_okN tf_okL; decide +kernel

set_option maxRecDepth 100000 in
theorem lX6_66 : tf_okS RX6 66 2 mX2_mirrored := by unfold tf_okS tf_okL; decide +kernel

set_option maxRecDepth 100000 in
theorem lX6_72 : tf_okS RX6 72 2 mX2_beside := by unfold tf_okS tf_okL; decide +kernel

set_option maxHeartbeats 1000000 in
theorem l_first {G : tf_G} {S : tf_Sg} {o q : Nat} {f : Nat → Nat} (hM : tf_sV G S o 40 (f 364) (fun j => nI (f (144 + j)))) (hW : tf_sV G S q 40 (f 365) (fun j => nI (f (184 + j)))) (hb : ∀ k, f k < 10000) : tf_Fn mX6_firstUnlike 2 0 0 G S [.ref o, .ref q] G S (some (.int (nI (tf_fU f)))) := by
  have m1 := hM.1.1
  have w1 := hW.1.1
  have m40 := hM.2.2.1
  have w40 := hW.2.2.1
  have ule := tf_fU_le f
  refine tf_Fn_of (own := RX6) false ⟨by decide, rfl, by decide⟩ (Nat.le_of_ble_eq_true rfl) trivial (fun x hx hR => ?_)
  show tf_K x 0 0 G S 0 [some (.ref o), some (.ref q), none, none] []
  have hmn : (if nI (f 365) < nI (f 364) then nI (f 365) else nI (f 364)) = nI (tf_mn f) := by
    unfold tf_mn
    by_cases h : f 365 < f 364
    · rw [if_pos h, if_pos (nI_lt h (by omega))]
    · rw [if_neg h, if_neg (nI_nlt (by omega) (by omega))]
  have mle := tf_mn_le f
  refine tf_go hx ftX6_firstUnlike 1 [] 1 [some (.ref o), some (.ref q), none, none] [.ref o] S rfl ⟨by decide, by decide, rfl⟩ trivial ?_
  refine tf_cV hx ftX6_firstUnlike (nx := 4) (As := []) (rest := []) (st2 := [.int (nI (f 364))]) (v_size hM) rfl lX6_34 (by first | assumption | rfl | decide) rfl ⟨rfl, by decide, by decide, by decide, rfl, rfl⟩ ?_
  refine tf_go hx ftX6_firstUnlike 1 [] 5 [some (.ref o), some (.ref q), none, none] [.ref q, .int (nI (f 364))] S rfl ⟨by decide, by decide, rfl⟩ trivial ?_
  refine tf_cV hx ftX6_firstUnlike (nx := 8) (As := []) (rest := [.int (nI (f 364))]) (st2 := [.int (nI (f 365)), .int (nI (f 364))]) (v_size hW) rfl lX6_34 (by first | assumption | rfl | decide) rfl ⟨rfl, by decide, by decide, by decide, rfl, rfl⟩ ?_
  refine tf_go hx ftX6_firstUnlike 1 [] 11 [some (.ref o), some (.ref q), none, none] [.int (if (nI (f 365)) < (nI (f 364)) then (nI (f 365)) else (nI (f 364)))] S rfl ⟨by decide, by decide, rfl⟩ trivial ?_
  rw [hmn]
  refine tf_go hx ftX6_firstUnlike 3 [] 14 [some (.ref o), some (.ref q), some (.int (nI (tf_mn f))), some (.int 0)] [] S rfl ⟨by decide, by decide, rfl⟩ trivial ?_
  have loop : ∀ (m k : Nat), k + m = tf_mn f → (tf_fst (tf_df f) m k = tf_fU f) → tf_K x 0 0 G S 14 [some (.ref o), some (.ref q), some (.int (nI (tf_mn f))), some (.int (nI k))] [] := by
    intro m
    induction m with
    | zero =>
      intro k hk he
      refine tf_go hx ftX6_firstUnlike 2 [] 16 [some (.ref o), some (.ref q), some (.int (nI (tf_mn f))), some (.int (nI k))] [.int (nI (tf_mn f)), .int (nI k)] S rfl ⟨by decide, by decide, rfl⟩ trivial ?_
      refine tf_go hx ftX6_firstUnlike 2 [true] 41 [some (.ref o), some (.ref q), some (.int (nI (tf_mn f))), some (.int (nI k))] [.int (nI (tf_mn f))] S rfl ⟨by decide, by decide, rfl⟩ ⟨trivial, (tf_leT (a := (tf_mn f)) (b := k) rfl rfl (by omega) (by omega) (by omega))⟩ ?_
      exact tf_ret ftX6_firstUnlike hR rfl ⟨by decide, by decide⟩ rfl rfl (by rw [← he, tf_fst_0, show k = tf_mn f by omega]; rfl)
    | succ m ih =>
      intro k hk he
      refine tf_go hx ftX6_firstUnlike 2 [] 16 [some (.ref o), some (.ref q), some (.int (nI (tf_mn f))), some (.int (nI k))] [.int (nI (tf_mn f)), .int (nI k)] S rfl ⟨by decide, by decide, rfl⟩ trivial ?_
      refine tf_go hx ftX6_firstUnlike 1 [false] 19 [some (.ref o), some (.ref q), some (.int (nI (tf_mn f))), some (.int (nI k))] [] S rfl ⟨by decide, by decide, rfl⟩ ⟨trivial, (tf_leF (a := (tf_mn f)) (b := k) rfl rfl (by omega) (by omega) (by omega))⟩ ?_
      refine tf_go hx ftX6_firstUnlike 2 [] 21 [some (.ref o), some (.ref q), some (.int (nI (tf_mn f))), some (.int (nI k))] [.int (nI k), .ref o] S rfl ⟨by decide, by decide, rfl⟩ trivial ?_
      refine tf_cV hx ftX6_firstUnlike (nx := 24) (As := [.int (nI k)]) (rest := []) (st2 := [.int (nI (f (144 + k)))]) (v_at hM (show k < f 364 by omega)) rfl lX6_46 (by first | assumption | rfl | decide) rfl ⟨rfl, by decide, by decide, by decide, rfl, rfl⟩ ?_
      refine tf_go hx ftX6_firstUnlike 2 [] 26 [some (.ref o), some (.ref q), some (.int (nI (tf_mn f))), some (.int (nI k))] [.int (nI k), .ref q, .int (nI (f (144 + k)))] S rfl ⟨by decide, by decide, rfl⟩ trivial ?_
      refine tf_cV hx ftX6_firstUnlike (nx := 29) (As := [.int (nI k)]) (rest := [.int (nI (f (144 + k)))]) (st2 := [.int (nI (f (184 + k))), .int (nI (f (144 + k)))]) (v_at hW (show k < f 365 by omega)) rfl lX6_46 (by first | assumption | rfl | decide) rfl ⟨rfl, by decide, by decide, by decide, rfl, rfl⟩ ?_
      by_cases e1 : f (144 + k) = f (184 + k)
      · refine tf_go hx ftX6_firstUnlike 1 [true] 34 [some (.ref o), some (.ref q), some (.int (nI (tf_mn f))), some (.int (nI k))] [] S rfl ⟨by decide, by decide, rfl⟩ ⟨trivial, (tf_eqT (a := (f (144 + k))) (b := (f (184 + k))) rfl rfl (by have := hb (144 + k); have := hb (184 + k); omega))⟩ ?_
        rw [tf_fst_n (by rw [tf_df_f.mpr e1]; decide)] at he
        refine tf_go hx ftX6_firstUnlike 2 [] 14 [some (.ref o), some (.ref q), some (.int (nI (tf_mn f))), some (.int ((nI k) + 1))] [] S rfl ⟨by decide, by decide, rfl⟩ trivial ?_
        rw [show ((nI k) + 1) = nI (k + 1) from (tf_add (a := k) (b := 1) rfl (rfl : (1 : Int32) = nI 1))]
        exact ih (k + 1) (by omega) he
      · refine tf_go hx ftX6_firstUnlike 2 [false] 33 [some (.ref o), some (.ref q), some (.int (nI (tf_mn f))), some (.int (nI k))] [.int (nI k)] S rfl ⟨by decide, by decide, rfl⟩ ⟨trivial, (tf_eqF (a := (f (144 + k))) (b := (f (184 + k))) rfl rfl (by have := hb (144 + k); have := hb (184 + k); omega) (by have := hb (144 + k); have := hb (184 + k); omega) (by have := hb (144 + k); have := hb (184 + k); omega))⟩ ?_
        exact tf_ret ftX6_firstUnlike hR rfl ⟨by decide, by decide⟩ rfl rfl (by rw [← he, tf_fst_y (tf_df_t.mpr e1)]; rfl)
  exact loop (tf_mn f) 0 (by omega) rfl

set_option maxHeartbeats 1000000 in
theorem l_rest {G : tf_G} {S : tf_Sg} {o q : Nat} {f : Nat → Nat} (a c : Nat) (hM : tf_sV G S o 40 (f 364) (fun j => nI (f (144 + j)))) (hW : tf_sV G S q 40 (f 365) (fun j => nI (f (184 + j)))) (hb : ∀ k, f k < 10000) (ha : a ≤ f 364) (hc : c ≤ f 365) : tf_Fn mX6_sameRest 2 0 0 G S [.ref o, .int (nI a), .ref q, .int (nI c)] G S (some (.int (nI (if tf_rs f a c = true then 1 else 0)))) := by
  have m1 := hM.1.1
  have w1 := hW.1.1
  have m40 := hM.2.2.1
  have w40 := hW.2.2.1
  have ule := tf_fU_le f
  refine tf_Fn_of (own := RX6) false ⟨by decide, rfl, by decide⟩ (Nat.le_of_ble_eq_true rfl) (by show nI (if _ then 1 else 0) = 0 ∨ _; split; exact Or.inr rfl; exact Or.inl rfl) (fun x hx hR => ?_)
  show tf_K x 0 0 G S 0 [some (.ref o), some (.int (nI a)), some (.ref q), some (.int (nI c)), none, none] []
  refine tf_go hx ftX6_sameRest 1 [] 1 [some (.ref o), some (.int (nI a)), some (.ref q), some (.int (nI c)), none, none] [.ref o] S rfl ⟨by decide, by decide, rfl⟩ trivial ?_
  refine tf_cV hx ftX6_sameRest (nx := 4) (As := []) (rest := []) (st2 := [.int (nI (f 364))]) (v_size hM) rfl lX6_34 (by first | assumption | rfl | decide) rfl ⟨rfl, by decide, by decide, by decide, rfl, rfl⟩ ?_
  refine tf_go hx ftX6_sameRest 3 [] 8 [some (.ref o), some (.int (nI a)), some (.ref q), some (.int (nI c)), some (.int ((nI (f 364)) - (nI a))), none] [] S rfl ⟨by decide, by decide, rfl⟩ trivial ?_
  rw [show ((nI (f 364)) - (nI a)) = nI ((f 364) - a) from (tf_sub (a := (f 364)) (b := a) rfl rfl (by have := hb 364; omega))]
  refine tf_go hx ftX6_sameRest 1 [] 9 [some (.ref o), some (.int (nI a)), some (.ref q), some (.int (nI c)), some (.int (nI ((f 364) - a))), none] [.ref q] S rfl ⟨by decide, by decide, rfl⟩ trivial ?_
  refine tf_cV hx ftX6_sameRest (nx := 12) (As := []) (rest := []) (st2 := [.int (nI (f 365))]) (v_size hW) rfl lX6_34 (by first | assumption | rfl | decide) rfl ⟨rfl, by decide, by decide, by decide, rfl, rfl⟩ ?_
  refine tf_go hx ftX6_sameRest 2 [] 14 [some (.ref o), some (.int (nI a)), some (.ref q), some (.int (nI c)), some (.int (nI ((f 364) - a))), none] [.int ((nI (f 365)) - (nI c))] S rfl ⟨by decide, by decide, rfl⟩ trivial ?_
  rw [show ((nI (f 365)) - (nI c)) = nI ((f 365) - c) from (tf_sub (a := (f 365)) (b := c) rfl rfl (by have := hb 365; omega))]
  refine tf_go hx ftX6_sameRest 1 [] 16 [some (.ref o), some (.int (nI a)), some (.ref q), some (.int (nI c)), some (.int (nI ((f 364) - a))), none] [.int (nI ((f 364) - a)), .int (nI ((f 365) - c))] S rfl ⟨by decide, by decide, rfl⟩ trivial ?_
  by_cases e1 : f 365 - c = f 364 - a
  · refine tf_go hx ftX6_sameRest 1 [true] 21 [some (.ref o), some (.int (nI a)), some (.ref q), some (.int (nI c)), some (.int (nI ((f 364) - a))), none] [] S rfl ⟨by decide, by decide, rfl⟩ ⟨trivial, (tf_eqT (a := ((f 365) - c)) (b := ((f 364) - a)) rfl rfl (by have := hb 365; have := hb 364; omega))⟩ ?_
    refine tf_go hx ftX6_sameRest 2 [] 24 [some (.ref o), some (.int (nI a)), some (.ref q), some (.int (nI c)), some (.int (nI ((f 364) - a))), some (.int 0)] [] S rfl ⟨by decide, by decide, rfl⟩ trivial ?_
    have loop : ∀ (m k : Nat), k + m = f 364 - a → (tf_fst (fun i => !(f (144 + (a + i)) == f (184 + (c + i)))) m k = tf_fst (fun i => !(f (144 + (a + i)) == f (184 + (c + i)))) (f 364 - a) 0) → tf_K x 0 0 G S 24 [some (.ref o), some (.int (nI a)), some (.ref q), some (.int (nI c)), some (.int (nI (f 364 - a))), some (.int (nI k))] [] := by
      intro m
      induction m with
      | zero =>
        intro k hk he
        refine tf_go hx ftX6_sameRest 2 [] 28 [some (.ref o), some (.int (nI a)), some (.ref q), some (.int (nI c)), some (.int (nI (f 364 - a))), some (.int (nI k))] [.int (nI (f 364 - a)), .int (nI k)] S rfl ⟨by decide, by decide, rfl⟩ trivial ?_
        refine tf_go hx ftX6_sameRest 2 [true] 59 [some (.ref o), some (.int (nI a)), some (.ref q), some (.int (nI c)), some (.int (nI (f 364 - a))), some (.int (nI k))] [.int 1] S rfl ⟨by decide, by decide, rfl⟩ ⟨trivial, (tf_leT (a := (f 364 - a)) (b := k) rfl rfl (by have := hb 364; omega) (by have := hb 364; omega) (by have := hb 364; omega))⟩ ?_
        exact tf_ret ftX6_sameRest hR rfl ⟨by decide, by decide⟩ rfl rfl (by rw [tf_fst_0] at he; rw [if_pos (by unfold tf_rs; rw [← he]; simp [e1]; omega)]; rfl)
      | succ m ih =>
        intro k hk he
        refine tf_go hx ftX6_sameRest 2 [] 28 [some (.ref o), some (.int (nI a)), some (.ref q), some (.int (nI c)), some (.int (nI (f 364 - a))), some (.int (nI k))] [.int (nI (f 364 - a)), .int (nI k)] S rfl ⟨by decide, by decide, rfl⟩ trivial ?_
        refine tf_go hx ftX6_sameRest 1 [false] 31 [some (.ref o), some (.int (nI a)), some (.ref q), some (.int (nI c)), some (.int (nI (f 364 - a))), some (.int (nI k))] [] S rfl ⟨by decide, by decide, rfl⟩ ⟨trivial, (tf_leF (a := (f 364 - a)) (b := k) rfl rfl (by have := hb 364; omega) (by have := hb 364; omega) (by have := hb 364; omega))⟩ ?_
        refine tf_go hx ftX6_sameRest 4 [] 36 [some (.ref o), some (.int (nI a)), some (.ref q), some (.int (nI c)), some (.int (nI (f 364 - a))), some (.int (nI k))] [.int ((nI a) + (nI k)), .ref o] S rfl ⟨by decide, by decide, rfl⟩ trivial ?_
        rw [show ((nI a) + (nI k)) = nI (a + k) from (tf_add (a := a) (b := k) rfl rfl)]
        refine tf_cV hx ftX6_sameRest (nx := 39) (As := [.int (nI (a + k))]) (rest := []) (st2 := [.int (nI (f (144 + (a + k))))]) (v_at hM (show a + k < f 364 by omega)) rfl lX6_46 (by first | assumption | rfl | decide) rfl ⟨rfl, by decide, by decide, by decide, rfl, rfl⟩ ?_
        refine tf_go hx ftX6_sameRest 4 [] 44 [some (.ref o), some (.int (nI a)), some (.ref q), some (.int (nI c)), some (.int (nI (f 364 - a))), some (.int (nI k))] [.int ((nI c) + (nI k)), .ref q, .int (nI (f (144 + (a + k))))] S rfl ⟨by decide, by decide, rfl⟩ trivial ?_
        rw [show ((nI c) + (nI k)) = nI (c + k) from (tf_add (a := c) (b := k) rfl rfl)]
        refine tf_cV hx ftX6_sameRest (nx := 47) (As := [.int (nI (c + k))]) (rest := [.int (nI (f (144 + (a + k))))]) (st2 := [.int (nI (f (184 + (c + k)))), .int (nI (f (144 + (a + k))))]) (v_at hW (show c + k < f 365 by omega)) rfl lX6_46 (by first | assumption | rfl | decide) rfl ⟨rfl, by decide, by decide, by decide, rfl, rfl⟩ ?_
        by_cases e2 : f (144 + (a + k)) = f (184 + (c + k))
        · refine tf_go hx ftX6_sameRest 1 [true] 52 [some (.ref o), some (.int (nI a)), some (.ref q), some (.int (nI c)), some (.int (nI (f 364 - a))), some (.int (nI k))] [] S rfl ⟨by decide, by decide, rfl⟩ ⟨trivial, (tf_eqT (a := (f (144 + (a + k)))) (b := (f (184 + (c + k)))) rfl rfl (by have := hb (144 + (a + k)); have := hb (184 + (c + k)); omega))⟩ ?_
          rw [tf_fst_n (by simp [e2])] at he
          refine tf_go hx ftX6_sameRest 2 [] 24 [some (.ref o), some (.int (nI a)), some (.ref q), some (.int (nI c)), some (.int (nI (f 364 - a))), some (.int ((nI k) + 1))] [] S rfl ⟨by decide, by decide, rfl⟩ trivial ?_
          rw [show ((nI k) + 1) = nI (k + 1) from (tf_add (a := k) (b := 1) rfl (rfl : (1 : Int32) = nI 1))]
          exact ih (k + 1) (by omega) he
        · refine tf_go hx ftX6_sameRest 2 [false] 51 [some (.ref o), some (.int (nI a)), some (.ref q), some (.int (nI c)), some (.int (nI (f 364 - a))), some (.int (nI k))] [.int 0] S rfl ⟨by decide, by decide, rfl⟩ ⟨trivial, (tf_eqF (a := (f (144 + (a + k)))) (b := (f (184 + (c + k)))) rfl rfl (by have := hb (144 + (a + k)); have := hb (184 + (c + k)); omega) (by have := hb (144 + (a + k)); have := hb (184 + (c + k)); omega) (by have := hb (144 + (a + k)); have := hb (184 + (c + k)); omega))⟩ ?_
          rw [tf_fst_y (by simp [e2])] at he
          exact tf_ret ftX6_sameRest hR rfl ⟨by decide, by decide⟩ rfl rfl (by rw [if_neg (by unfold tf_rs; rw [← he]; simp [e1]; omega)]; rfl)
    exact loop (f 364 - a) 0 (by omega) rfl
  · refine tf_go hx ftX6_sameRest 2 [false] 20 [some (.ref o), some (.int (nI a)), some (.ref q), some (.int (nI c)), some (.int (nI ((f 364) - a))), none] [.int 0] S rfl ⟨by decide, by decide, rfl⟩ ⟨trivial, (tf_eqF (a := ((f 365) - c)) (b := ((f 364) - a)) rfl rfl (by have := hb 365; have := hb 364; omega) (by have := hb 365; have := hb 364; omega) (by have := hb 365; have := hb 364; omega))⟩ ?_
    exact tf_ret ftX6_sameRest hR rfl ⟨by decide, by decide⟩ rfl rfl (by rw [if_neg (fun h => e1 (tf_rs_iff.mp h).1)]; rfl)

set_option maxHeartbeats 1000000 in
theorem l_slip {G : tf_G} {S : tf_Sg} {o q : Nat} {f : Nat → Nat} (hM : tf_sV G S o 40 (f 364) (fun j => nI (f (144 + j)))) (hW : tf_sV G S q 40 (f 365) (fun j => nI (f (184 + j)))) (hb : ∀ k, f k < 10000) : tf_Fn mX6_slipPlace 3 0 0 G S [.ref o, .ref q] G S (some (.int (tf_on 41 (tf_sl f)))) := by
  have m1 := hM.1.1
  have w1 := hW.1.1
  have m40 := hM.2.2.1
  have w40 := hW.2.2.1
  have ule := tf_fU_le f
  refine tf_Fn_of (own := RX6) false ⟨by decide, rfl, by decide⟩ (Nat.le_of_ble_eq_true rfl) trivial (fun x hx hR => ?_)
  show tf_K x 0 0 G S 0 [some (.ref o), some (.ref q), none, none] []
  refine tf_go hx ftX6_slipPlace 2 [] 2 [some (.ref o), some (.ref q), none, none] [.ref q, .ref o] S rfl ⟨by decide, by decide, rfl⟩ trivial ?_
  refine tf_cS hx ftX6_slipPlace (nx := 5) (As := [.ref o, .ref q]) (rest := []) (st2 := [.int (nI (tf_fU f))]) (l_first hM hW hb) rfl lX6_50 rfl ⟨rfl, by decide, by decide, by decide, rfl, rfl⟩ ?_
  generalize hu : tf_fU f = u at *
  refine tf_go hx ftX6_slipPlace 1 [] 6 [some (.ref o), some (.ref q), some (.int (nI u)), none] [] S rfl ⟨by decide, by decide, rfl⟩ trivial ?_
  refine tf_go hx ftX6_slipPlace 2 [] 8 [some (.ref o), some (.ref q), some (.int (nI u)), none] [.ref o, .int (nI u)] S rfl ⟨by decide, by decide, rfl⟩ trivial ?_
  refine tf_cV hx ftX6_slipPlace (nx := 11) (As := []) (rest := [.int (nI u)]) (st2 := [.int (nI (f 364)), .int (nI u)]) (v_size hM) rfl lX6_34 (by first | assumption | rfl | decide) rfl ⟨rfl, by decide, by decide, by decide, rfl, rfl⟩ ?_
  by_cases e1 : u < f 364
  · refine tf_go hx ftX6_slipPlace 1 [false] 14 [some (.ref o), some (.ref q), some (.int (nI u)), none] [] S rfl ⟨by decide, by decide, rfl⟩ ⟨trivial, (tf_leF (a := (f 364)) (b := u) rfl rfl (by have := hb 364; omega) (by have := hb 364; omega) (by have := hb 364; omega))⟩ ?_
    refine tf_go hx ftX6_slipPlace 2 [] 16 [some (.ref o), some (.ref q), some (.int (nI u)), none] [.ref q, .int (nI u)] S rfl ⟨by decide, by decide, rfl⟩ trivial ?_
    refine tf_cV hx ftX6_slipPlace (nx := 19) (As := []) (rest := [.int (nI u)]) (st2 := [.int (nI (f 365)), .int (nI u)]) (v_size hW) rfl lX6_34 (by first | assumption | rfl | decide) rfl ⟨rfl, by decide, by decide, by decide, rfl, rfl⟩ ?_
    by_cases e2 : u < f 365
    · refine tf_go hx ftX6_slipPlace 1 [false] 22 [some (.ref o), some (.ref q), some (.int (nI u)), none] [] S rfl ⟨by decide, by decide, rfl⟩ ⟨trivial, (tf_leF (a := (f 365)) (b := u) rfl rfl (by have := hb 365; omega) (by have := hb 365; omega) (by have := hb 365; omega))⟩ ?_
      refine tf_go hx ftX6_slipPlace 2 [] 24 [some (.ref o), some (.ref q), some (.int (nI u)), none] [.int (nI u), .ref q] S rfl ⟨by decide, by decide, rfl⟩ trivial ?_
      refine tf_cV hx ftX6_slipPlace (nx := 27) (As := [.int (nI u)]) (rest := []) (st2 := [.int (nI (f (184 + u)))]) (v_at hW (show u < f 365 by omega)) rfl lX6_46 (by first | assumption | rfl | decide) rfl ⟨rfl, by decide, by decide, by decide, rfl, rfl⟩ ?_
      refine tf_go hx ftX6_slipPlace 1 [] 29 [some (.ref o), some (.ref q), some (.int (nI u)), none] [.int 26, .int (nI (f (184 + u)))] S rfl ⟨by decide, by decide, rfl⟩ trivial ?_
      by_cases e3 : f (184 + u) = 26
      · refine tf_go hx ftX6_slipPlace 1 [true] 50 [some (.ref o), some (.ref q), some (.int (nI u)), none] [] S rfl ⟨by decide, by decide, rfl⟩ ⟨trivial, (tf_eqT (a := (f (184 + u))) (b := 26) rfl (rfl : (26 : Int32) = nI 26) (by have := hb (184 + u); omega))⟩ ?_
        refine tf_go hx ftX6_slipPlace 2 [] 52 [some (.ref o), some (.ref q), some (.int (nI u)), some (.int 0)] [] S rfl ⟨by decide, by decide, rfl⟩ trivial ?_
        refine tf_go hx ftX6_slipPlace 3 [true] 62 [some (.ref o), some (.ref q), some (.int (nI u)), some (.int 0)] [.int (-9)] S rfl ⟨by decide, by decide, rfl⟩ ⟨trivial, rfl⟩ ?_
        exact tf_ret ftX6_slipPlace hR rfl ⟨by decide, by decide⟩ rfl rfl (by rw [tf_on_n (by rw [tf_sl_eq, hu, if_neg (fun h => h.2.2.1 e3)]; decide)]; rfl)
      · refine tf_go hx ftX6_slipPlace 1 [false] 32 [some (.ref o), some (.ref q), some (.int (nI u)), none] [] S rfl ⟨by decide, by decide, rfl⟩ ⟨trivial, (tf_eqF (a := (f (184 + u))) (b := 26) rfl (rfl : (26 : Int32) = nI 26) (by have := hb (184 + u); omega) (by have := hb (184 + u); omega) (by have := hb (184 + u); omega))⟩ ?_
        refine tf_go hx ftX6_slipPlace 4 [] 36 [some (.ref o), some (.ref q), some (.int (nI u)), none] [.int ((nI u) + 1), .ref o] S rfl ⟨by decide, by decide, rfl⟩ trivial ?_
        rw [show ((nI u) + 1) = nI (u + 1) from (tf_add (a := u) (b := 1) rfl (rfl : (1 : Int32) = nI 1))]
        refine tf_go hx ftX6_slipPlace 4 [] 40 [some (.ref o), some (.ref q), some (.int (nI u)), none] [.int ((nI u) + 1), .ref q, .int (nI (u + 1)), .ref o] S rfl ⟨by decide, by decide, rfl⟩ trivial ?_
        rw [show ((nI u) + 1) = nI (u + 1) from (tf_add (a := u) (b := 1) rfl (rfl : (1 : Int32) = nI 1))]
        refine tf_cS hx ftX6_slipPlace (nx := 43) (As := [.ref o, .int (nI (u + 1)), .ref q, .int (nI (u + 1))]) (rest := []) (st2 := [.int (nI (if tf_rs f (u + 1) (u + 1) = true then 1 else 0))]) (l_rest (u + 1) (u + 1) hM hW hb (by omega) (by omega)) rfl lX6_53 rfl ⟨rfl, by decide, by decide, by decide, rfl, rfl⟩ ?_
        by_cases e4 : tf_rs f (u + 1) (u + 1) = true
        · rw [if_pos e4]
          refine tf_go hx ftX6_slipPlace 1 [false] 46 [some (.ref o), some (.ref q), some (.int (nI u)), none] [] S rfl ⟨by decide, by decide, rfl⟩ ⟨trivial, (by decide)⟩ ?_
          refine tf_go hx ftX6_slipPlace 3 [] 52 [some (.ref o), some (.ref q), some (.int (nI u)), some (.int 1)] [] S rfl ⟨by decide, by decide, rfl⟩ trivial ?_
          refine tf_go hx ftX6_slipPlace 4 [false] 62 [some (.ref o), some (.ref q), some (.int (nI u)), some (.int 1)] [.int (nI u)] S rfl ⟨by decide, by decide, rfl⟩ ⟨trivial, (by decide)⟩ ?_
          exact tf_ret ftX6_slipPlace hR rfl ⟨by decide, by decide⟩ rfl rfl (by rw [tf_sl_eq, hu, if_pos (⟨e1, e2, e3, e4⟩), tf_on_y (by omega)]; rfl)
        · rw [if_neg e4]
          refine tf_go hx ftX6_slipPlace 1 [true] 50 [some (.ref o), some (.ref q), some (.int (nI u)), none] [] S rfl ⟨by decide, by decide, rfl⟩ ⟨trivial, rfl⟩ ?_
          refine tf_go hx ftX6_slipPlace 2 [] 52 [some (.ref o), some (.ref q), some (.int (nI u)), some (.int 0)] [] S rfl ⟨by decide, by decide, rfl⟩ trivial ?_
          refine tf_go hx ftX6_slipPlace 3 [true] 62 [some (.ref o), some (.ref q), some (.int (nI u)), some (.int 0)] [.int (-9)] S rfl ⟨by decide, by decide, rfl⟩ ⟨trivial, rfl⟩ ?_
          exact tf_ret ftX6_slipPlace hR rfl ⟨by decide, by decide⟩ rfl rfl (by rw [tf_on_n (by rw [tf_sl_eq, hu, if_neg (fun h => e4 h.2.2.2)]; decide)]; rfl)
    · refine tf_go hx ftX6_slipPlace 1 [true] 50 [some (.ref o), some (.ref q), some (.int (nI u)), none] [] S rfl ⟨by decide, by decide, rfl⟩ ⟨trivial, (tf_leT (a := (f 365)) (b := u) rfl rfl (by have := hb 365; omega) (by have := hb 365; omega) (by have := hb 365; omega))⟩ ?_
      refine tf_go hx ftX6_slipPlace 2 [] 52 [some (.ref o), some (.ref q), some (.int (nI u)), some (.int 0)] [] S rfl ⟨by decide, by decide, rfl⟩ trivial ?_
      refine tf_go hx ftX6_slipPlace 3 [true] 62 [some (.ref o), some (.ref q), some (.int (nI u)), some (.int 0)] [.int (-9)] S rfl ⟨by decide, by decide, rfl⟩ ⟨trivial, rfl⟩ ?_
      exact tf_ret ftX6_slipPlace hR rfl ⟨by decide, by decide⟩ rfl rfl (by rw [tf_on_n (by rw [tf_sl_eq, hu, if_neg (fun h => e2 h.2.1)]; decide)]; rfl)
  · refine tf_go hx ftX6_slipPlace 1 [true] 50 [some (.ref o), some (.ref q), some (.int (nI u)), none] [] S rfl ⟨by decide, by decide, rfl⟩ ⟨trivial, (tf_leT (a := (f 364)) (b := u) rfl rfl (by have := hb 364; omega) (by have := hb 364; omega) (by have := hb 364; omega))⟩ ?_
    refine tf_go hx ftX6_slipPlace 2 [] 52 [some (.ref o), some (.ref q), some (.int (nI u)), some (.int 0)] [] S rfl ⟨by decide, by decide, rfl⟩ trivial ?_
    refine tf_go hx ftX6_slipPlace 3 [true] 62 [some (.ref o), some (.ref q), some (.int (nI u)), some (.int 0)] [.int (-9)] S rfl ⟨by decide, by decide, rfl⟩ ⟨trivial, rfl⟩ ?_
    exact tf_ret ftX6_slipPlace hR rfl ⟨by decide, by decide⟩ rfl rfl (by rw [tf_on_n (by rw [tf_sl_eq, hu, if_neg (fun h => e1 h.1)]; decide)]; rfl)

set_option maxHeartbeats 1000000 in
theorem l_swap {G : tf_G} {S : tf_Sg} {o q : Nat} {f : Nat → Nat} (hM : tf_sV G S o 40 (f 364) (fun j => nI (f (144 + j)))) (hW : tf_sV G S q 40 (f 365) (fun j => nI (f (184 + j)))) (hb : ∀ k, f k < 10000) : tf_Fn mX6_swappedPlace 3 0 0 G S [.ref o, .ref q] G S (some (.int (tf_on 41 (tf_sw f)))) := by
  have m1 := hM.1.1
  have w1 := hW.1.1
  have m40 := hM.2.2.1
  have w40 := hW.2.2.1
  have ule := tf_fU_le f
  refine tf_Fn_of (own := RX6) false ⟨by decide, rfl, by decide⟩ (Nat.le_of_ble_eq_true rfl) trivial (fun x hx hR => ?_)
  show tf_K x 0 0 G S 0 [some (.ref o), some (.ref q), none, none] []
  refine tf_go hx ftX6_swappedPlace 2 [] 2 [some (.ref o), some (.ref q), none, none] [.ref q, .ref o] S rfl ⟨by decide, by decide, rfl⟩ trivial ?_
  refine tf_cS hx ftX6_swappedPlace (nx := 5) (As := [.ref o, .ref q]) (rest := []) (st2 := [.int (nI (tf_fU f))]) (l_first hM hW hb) rfl lX6_50 rfl ⟨rfl, by decide, by decide, by decide, rfl, rfl⟩ ?_
  generalize hu : tf_fU f = u at *
  refine tf_go hx ftX6_swappedPlace 1 [] 6 [some (.ref o), some (.ref q), some (.int (nI u)), none] [] S rfl ⟨by decide, by decide, rfl⟩ trivial ?_
  refine tf_go hx ftX6_swappedPlace 4 [] 10 [some (.ref o), some (.ref q), some (.int (nI u)), none] [.ref o, .int ((nI u) + 1)] S rfl ⟨by decide, by decide, rfl⟩ trivial ?_
  rw [show ((nI u) + 1) = nI (u + 1) from (tf_add (a := u) (b := 1) rfl (rfl : (1 : Int32) = nI 1))]
  refine tf_cV hx ftX6_swappedPlace (nx := 13) (As := []) (rest := [.int (nI (u + 1))]) (st2 := [.int (nI (f 364)), .int (nI (u + 1))]) (v_size hM) rfl lX6_34 (by first | assumption | rfl | decide) rfl ⟨rfl, by decide, by decide, by decide, rfl, rfl⟩ ?_
  by_cases e1 : u + 1 < f 364
  · refine tf_go hx ftX6_swappedPlace 1 [false] 16 [some (.ref o), some (.ref q), some (.int (nI u)), none] [] S rfl ⟨by decide, by decide, rfl⟩ ⟨trivial, (tf_leF (a := (f 364)) (b := (u + 1)) rfl rfl (by have := hb 364; omega) (by have := hb 364; omega) (by have := hb 364; omega))⟩ ?_
    refine tf_go hx ftX6_swappedPlace 4 [] 20 [some (.ref o), some (.ref q), some (.int (nI u)), none] [.ref q, .int ((nI u) + 1)] S rfl ⟨by decide, by decide, rfl⟩ trivial ?_
    rw [show ((nI u) + 1) = nI (u + 1) from (tf_add (a := u) (b := 1) rfl (rfl : (1 : Int32) = nI 1))]
    refine tf_cV hx ftX6_swappedPlace (nx := 23) (As := []) (rest := [.int (nI (u + 1))]) (st2 := [.int (nI (f 365)), .int (nI (u + 1))]) (v_size hW) rfl lX6_34 (by first | assumption | rfl | decide) rfl ⟨rfl, by decide, by decide, by decide, rfl, rfl⟩ ?_
    by_cases e2 : u + 1 < f 365
    · refine tf_go hx ftX6_swappedPlace 1 [false] 26 [some (.ref o), some (.ref q), some (.int (nI u)), none] [] S rfl ⟨by decide, by decide, rfl⟩ ⟨trivial, (tf_leF (a := (f 365)) (b := (u + 1)) rfl rfl (by have := hb 365; omega) (by have := hb 365; omega) (by have := hb 365; omega))⟩ ?_
      refine tf_go hx ftX6_swappedPlace 2 [] 28 [some (.ref o), some (.ref q), some (.int (nI u)), none] [.int (nI u), .ref q] S rfl ⟨by decide, by decide, rfl⟩ trivial ?_
      refine tf_cV hx ftX6_swappedPlace (nx := 31) (As := [.int (nI u)]) (rest := []) (st2 := [.int (nI (f (184 + u)))]) (v_at hW (show u < f 365 by omega)) rfl lX6_46 (by first | assumption | rfl | decide) rfl ⟨rfl, by decide, by decide, by decide, rfl, rfl⟩ ?_
      refine tf_go hx ftX6_swappedPlace 4 [] 35 [some (.ref o), some (.ref q), some (.int (nI u)), none] [.int ((nI u) + 1), .ref o, .int (nI (f (184 + u)))] S rfl ⟨by decide, by decide, rfl⟩ trivial ?_
      rw [show ((nI u) + 1) = nI (u + 1) from (tf_add (a := u) (b := 1) rfl (rfl : (1 : Int32) = nI 1))]
      refine tf_cV hx ftX6_swappedPlace (nx := 38) (As := [.int (nI (u + 1))]) (rest := [.int (nI (f (184 + u)))]) (st2 := [.int (nI (f (144 + (u + 1)))), .int (nI (f (184 + u)))]) (v_at hM (show u + 1 < f 364 by omega)) rfl lX6_46 (by first | assumption | rfl | decide) rfl ⟨rfl, by decide, by decide, by decide, rfl, rfl⟩ ?_
      by_cases e3 : f (184 + u) = f (144 + (u + 1))
      · refine tf_go hx ftX6_swappedPlace 1 [false] 41 [some (.ref o), some (.ref q), some (.int (nI u)), none] [] S rfl ⟨by decide, by decide, rfl⟩ ⟨trivial, (tf_neF (a := (f (184 + u))) (b := (f (144 + (u + 1)))) rfl rfl (by have := hb (184 + u); have := hb (144 + (u + 1)); omega))⟩ ?_
        refine tf_go hx ftX6_swappedPlace 4 [] 45 [some (.ref o), some (.ref q), some (.int (nI u)), none] [.int ((nI u) + 1), .ref q] S rfl ⟨by decide, by decide, rfl⟩ trivial ?_
        rw [show ((nI u) + 1) = nI (u + 1) from (tf_add (a := u) (b := 1) rfl (rfl : (1 : Int32) = nI 1))]
        refine tf_cV hx ftX6_swappedPlace (nx := 48) (As := [.int (nI (u + 1))]) (rest := []) (st2 := [.int (nI (f (184 + (u + 1))))]) (v_at hW (show u + 1 < f 365 by omega)) rfl lX6_46 (by first | assumption | rfl | decide) rfl ⟨rfl, by decide, by decide, by decide, rfl, rfl⟩ ?_
        refine tf_go hx ftX6_swappedPlace 2 [] 50 [some (.ref o), some (.ref q), some (.int (nI u)), none] [.int (nI u), .ref o, .int (nI (f (184 + (u + 1))))] S rfl ⟨by decide, by decide, rfl⟩ trivial ?_
        refine tf_cV hx ftX6_swappedPlace (nx := 53) (As := [.int (nI u)]) (rest := [.int (nI (f (184 + (u + 1))))]) (st2 := [.int (nI (f (144 + u))), .int (nI (f (184 + (u + 1))))]) (v_at hM (show u < f 364 by omega)) rfl lX6_46 (by first | assumption | rfl | decide) rfl ⟨rfl, by decide, by decide, by decide, rfl, rfl⟩ ?_
        by_cases e4 : f (184 + (u + 1)) = f (144 + u)
        · refine tf_go hx ftX6_swappedPlace 1 [false] 56 [some (.ref o), some (.ref q), some (.int (nI u)), none] [] S rfl ⟨by decide, by decide, rfl⟩ ⟨trivial, (tf_neF (a := (f (184 + (u + 1)))) (b := (f (144 + u))) rfl rfl (by have := hb (184 + (u + 1)); have := hb (144 + u); omega))⟩ ?_
          refine tf_go hx ftX6_swappedPlace 4 [] 60 [some (.ref o), some (.ref q), some (.int (nI u)), none] [.int ((nI u) + 2), .ref o] S rfl ⟨by decide, by decide, rfl⟩ trivial ?_
          rw [show ((nI u) + 2) = nI (u + 2) from (tf_add (a := u) (b := 2) rfl (rfl : (2 : Int32) = nI 2))]
          refine tf_go hx ftX6_swappedPlace 4 [] 64 [some (.ref o), some (.ref q), some (.int (nI u)), none] [.int ((nI u) + 2), .ref q, .int (nI (u + 2)), .ref o] S rfl ⟨by decide, by decide, rfl⟩ trivial ?_
          rw [show ((nI u) + 2) = nI (u + 2) from (tf_add (a := u) (b := 2) rfl (rfl : (2 : Int32) = nI 2))]
          refine tf_cS hx ftX6_swappedPlace (nx := 67) (As := [.ref o, .int (nI (u + 2)), .ref q, .int (nI (u + 2))]) (rest := []) (st2 := [.int (nI (if tf_rs f (u + 2) (u + 2) = true then 1 else 0))]) (l_rest (u + 2) (u + 2) hM hW hb (by omega) (by omega)) rfl lX6_53 rfl ⟨rfl, by decide, by decide, by decide, rfl, rfl⟩ ?_
          by_cases e5 : tf_rs f (u + 2) (u + 2) = true
          · rw [if_pos e5]
            refine tf_go hx ftX6_swappedPlace 1 [false] 70 [some (.ref o), some (.ref q), some (.int (nI u)), none] [] S rfl ⟨by decide, by decide, rfl⟩ ⟨trivial, (by decide)⟩ ?_
            refine tf_go hx ftX6_swappedPlace 3 [] 76 [some (.ref o), some (.ref q), some (.int (nI u)), some (.int 1)] [] S rfl ⟨by decide, by decide, rfl⟩ trivial ?_
            refine tf_go hx ftX6_swappedPlace 4 [false] 86 [some (.ref o), some (.ref q), some (.int (nI u)), some (.int 1)] [.int (nI u)] S rfl ⟨by decide, by decide, rfl⟩ ⟨trivial, (by decide)⟩ ?_
            exact tf_ret ftX6_swappedPlace hR rfl ⟨by decide, by decide⟩ rfl rfl (by rw [tf_sw_eq, hu, if_pos (⟨e1, e2, e3, e4, e5⟩), tf_on_y (by omega)]; rfl)
          · rw [if_neg e5]
            refine tf_go hx ftX6_swappedPlace 1 [true] 74 [some (.ref o), some (.ref q), some (.int (nI u)), none] [] S rfl ⟨by decide, by decide, rfl⟩ ⟨trivial, rfl⟩ ?_
            refine tf_go hx ftX6_swappedPlace 2 [] 76 [some (.ref o), some (.ref q), some (.int (nI u)), some (.int 0)] [] S rfl ⟨by decide, by decide, rfl⟩ trivial ?_
            refine tf_go hx ftX6_swappedPlace 3 [true] 86 [some (.ref o), some (.ref q), some (.int (nI u)), some (.int 0)] [.int (-9)] S rfl ⟨by decide, by decide, rfl⟩ ⟨trivial, rfl⟩ ?_
            exact tf_ret ftX6_swappedPlace hR rfl ⟨by decide, by decide⟩ rfl rfl (by rw [tf_on_n (by rw [tf_sw_eq, hu, if_neg (fun h => e5 h.2.2.2.2)]; decide)]; rfl)
        · refine tf_go hx ftX6_swappedPlace 1 [true] 74 [some (.ref o), some (.ref q), some (.int (nI u)), none] [] S rfl ⟨by decide, by decide, rfl⟩ ⟨trivial, (tf_eqF (a := (f (184 + (u + 1)))) (b := (f (144 + u))) rfl rfl (by have := hb (184 + (u + 1)); have := hb (144 + u); omega) (by have := hb (184 + (u + 1)); have := hb (144 + u); omega) (by have := hb (184 + (u + 1)); have := hb (144 + u); omega))⟩ ?_
          refine tf_go hx ftX6_swappedPlace 2 [] 76 [some (.ref o), some (.ref q), some (.int (nI u)), some (.int 0)] [] S rfl ⟨by decide, by decide, rfl⟩ trivial ?_
          refine tf_go hx ftX6_swappedPlace 3 [true] 86 [some (.ref o), some (.ref q), some (.int (nI u)), some (.int 0)] [.int (-9)] S rfl ⟨by decide, by decide, rfl⟩ ⟨trivial, rfl⟩ ?_
          exact tf_ret ftX6_swappedPlace hR rfl ⟨by decide, by decide⟩ rfl rfl (by rw [tf_on_n (by rw [tf_sw_eq, hu, if_neg (fun h => e4 h.2.2.2.1)]; decide)]; rfl)
      · refine tf_go hx ftX6_swappedPlace 1 [true] 74 [some (.ref o), some (.ref q), some (.int (nI u)), none] [] S rfl ⟨by decide, by decide, rfl⟩ ⟨trivial, (tf_eqF (a := (f (184 + u))) (b := (f (144 + (u + 1)))) rfl rfl (by have := hb (184 + u); have := hb (144 + (u + 1)); omega) (by have := hb (184 + u); have := hb (144 + (u + 1)); omega) (by have := hb (184 + u); have := hb (144 + (u + 1)); omega))⟩ ?_
        refine tf_go hx ftX6_swappedPlace 2 [] 76 [some (.ref o), some (.ref q), some (.int (nI u)), some (.int 0)] [] S rfl ⟨by decide, by decide, rfl⟩ trivial ?_
        refine tf_go hx ftX6_swappedPlace 3 [true] 86 [some (.ref o), some (.ref q), some (.int (nI u)), some (.int 0)] [.int (-9)] S rfl ⟨by decide, by decide, rfl⟩ ⟨trivial, rfl⟩ ?_
        exact tf_ret ftX6_swappedPlace hR rfl ⟨by decide, by decide⟩ rfl rfl (by rw [tf_on_n (by rw [tf_sw_eq, hu, if_neg (fun h => e3 h.2.2.1)]; decide)]; rfl)
    · refine tf_go hx ftX6_swappedPlace 1 [true] 74 [some (.ref o), some (.ref q), some (.int (nI u)), none] [] S rfl ⟨by decide, by decide, rfl⟩ ⟨trivial, (tf_leT (a := (f 365)) (b := (u + 1)) rfl rfl (by have := hb 365; omega) (by have := hb 365; omega) (by have := hb 365; omega))⟩ ?_
      refine tf_go hx ftX6_swappedPlace 2 [] 76 [some (.ref o), some (.ref q), some (.int (nI u)), some (.int 0)] [] S rfl ⟨by decide, by decide, rfl⟩ trivial ?_
      refine tf_go hx ftX6_swappedPlace 3 [true] 86 [some (.ref o), some (.ref q), some (.int (nI u)), some (.int 0)] [.int (-9)] S rfl ⟨by decide, by decide, rfl⟩ ⟨trivial, rfl⟩ ?_
      exact tf_ret ftX6_swappedPlace hR rfl ⟨by decide, by decide⟩ rfl rfl (by rw [tf_on_n (by rw [tf_sw_eq, hu, if_neg (fun h => e2 h.2.1)]; decide)]; rfl)
  · refine tf_go hx ftX6_swappedPlace 1 [true] 74 [some (.ref o), some (.ref q), some (.int (nI u)), none] [] S rfl ⟨by decide, by decide, rfl⟩ ⟨trivial, (tf_leT (a := (f 364)) (b := (u + 1)) rfl rfl (by have := hb 364; omega) (by have := hb 364; omega) (by have := hb 364; omega))⟩ ?_
    refine tf_go hx ftX6_swappedPlace 2 [] 76 [some (.ref o), some (.ref q), some (.int (nI u)), some (.int 0)] [] S rfl ⟨by decide, by decide, rfl⟩ trivial ?_
    refine tf_go hx ftX6_swappedPlace 3 [true] 86 [some (.ref o), some (.ref q), some (.int (nI u)), some (.int 0)] [.int (-9)] S rfl ⟨by decide, by decide, rfl⟩ ⟨trivial, rfl⟩ ?_
    exact tf_ret ftX6_swappedPlace hR rfl ⟨by decide, by decide⟩ rfl rfl (by rw [tf_on_n (by rw [tf_sw_eq, hu, if_neg (fun h => e1 h.1)]; decide)]; rfl)

set_option maxHeartbeats 1000000 in
theorem l_double {G : tf_G} {S : tf_Sg} {o q : Nat} {f : Nat → Nat} (hM : tf_sV G S o 40 (f 364) (fun j => nI (f (144 + j)))) (hW : tf_sV G S q 40 (f 365) (fun j => nI (f (184 + j)))) (hb : ∀ k, f k < 10000) : tf_Fn mX6_doubledPlace 4 0 0 G S [.ref o, .ref q] G S (some (.int (tf_on 41 (tf_do f)))) := by
  have m1 := hM.1.1
  have w1 := hW.1.1
  have m40 := hM.2.2.1
  have w40 := hW.2.2.1
  have ule := tf_fU_le f
  refine tf_Fn_of (own := RX6) false ⟨by decide, rfl, by decide⟩ (Nat.le_of_ble_eq_true rfl) trivial (fun x hx hR => ?_)
  show tf_K x 0 0 G S 0 [some (.ref o), some (.ref q), none, none, none, none, none, none] []
  refine tf_go hx ftX6_doubledPlace 2 [] 2 [some (.ref o), some (.ref q), none, none, none, none, none, none] [.ref q, .ref o] S rfl ⟨by decide, by decide, rfl⟩ trivial ?_
  refine tf_cS hx ftX6_doubledPlace (nx := 5) (As := [.ref o, .ref q]) (rest := []) (st2 := [.int (tf_on 41 (tf_sl f))]) (l_slip hM hW hb) rfl lX6_9 rfl ⟨rfl, by decide, by decide, by decide, rfl, rfl⟩ ?_
  have sle : tf_sl f < 41 → f 365 = f 364 ∧ tf_sl f < f 364 := fun h => ⟨(tf_sl_le h).1, (tf_sl_le h).2.1⟩
  generalize hu : tf_sl f = u at *
  by_cases s0 : u < 41
  · obtain ⟨s1, s2⟩ := sle s0
    rw [tf_on_y s0]
    refine tf_go hx ftX6_doubledPlace 3 [] 8 [some (.ref o), some (.ref q), some (.int (nI u)), none, none, none, none, none] [.int 1, .int (nI u)] S rfl ⟨by decide, by decide, rfl⟩ trivial ?_
    by_cases e1 : u < 1
    · refine tf_go hx ftX6_doubledPlace 2 [true] 23 [some (.ref o), some (.ref q), some (.int (nI u)), none, none, none, none, none] [.int (-9)] S rfl ⟨by decide, by decide, rfl⟩ ⟨trivial, (tf_ltT (a := u) (b := 1) rfl (rfl : (1 : Int32) = nI 1) (by omega) (by omega) (by omega))⟩ ?_
      exact tf_ret ftX6_doubledPlace hR rfl ⟨by decide, by decide⟩ rfl rfl (by rw [tf_on_n (by rw [tf_do_eq, hu, if_neg (fun h => by omega)]; decide)]; rfl)
    · refine tf_go hx ftX6_doubledPlace 1 [false] 11 [some (.ref o), some (.ref q), some (.int (nI u)), none, none, none, none, none] [] S rfl ⟨by decide, by decide, rfl⟩ ⟨trivial, (tf_ltF (a := u) (b := 1) rfl (rfl : (1 : Int32) = nI 1) (by omega) (by omega) (by omega))⟩ ?_
      refine tf_go hx ftX6_doubledPlace 4 [] 15 [some (.ref o), some (.ref q), some (.int (nI u)), none, none, none, none, none] [.ref o, .int ((nI u) + 1)] S rfl ⟨by decide, by decide, rfl⟩ trivial ?_
      rw [show ((nI u) + 1) = nI (u + 1) from (tf_add (a := u) (b := 1) rfl (rfl : (1 : Int32) = nI 1))]
      refine tf_cV hx ftX6_doubledPlace (nx := 18) (As := []) (rest := [.int (nI (u + 1))]) (st2 := [.int (nI (f 364)), .int (nI (u + 1))]) (v_size hM) rfl lX6_34 (by first | assumption | rfl | decide) rfl ⟨rfl, by decide, by decide, by decide, rfl, rfl⟩ ?_
      by_cases e2 : u + 1 < f 364
      · refine tf_go hx ftX6_doubledPlace 1 [true] 24 [some (.ref o), some (.ref q), some (.int (nI u)), none, none, none, none, none] [] S rfl ⟨by decide, by decide, rfl⟩ ⟨trivial, (tf_ltT (a := (u + 1)) (b := (f 364)) rfl rfl (by have := hb 364; omega) (by have := hb 364; omega) (by have := hb 364; omega))⟩ ?_
        refine tf_go hx ftX6_doubledPlace 2 [] 26 [some (.ref o), some (.ref q), some (.int (nI u)), none, none, none, none, none] [.int (nI u), .ref o] S rfl ⟨by decide, by decide, rfl⟩ trivial ?_
        refine tf_cV hx ftX6_doubledPlace (nx := 29) (As := [.int (nI u)]) (rest := []) (st2 := [.int (nI (f (144 + u)))]) (v_at hM (show u < f 364 by omega)) rfl lX6_46 (by first | assumption | rfl | decide) rfl ⟨rfl, by decide, by decide, by decide, rfl, rfl⟩ ?_
        refine tf_go hx ftX6_doubledPlace 1 [] 30 [some (.ref o), some (.ref q), some (.int (nI u)), some (.int (nI (f (144 + u)))), none, none, none, none] [] S rfl ⟨by decide, by decide, rfl⟩ trivial ?_
        refine tf_go hx ftX6_doubledPlace 2 [] 32 [some (.ref o), some (.ref q), some (.int (nI u)), some (.int (nI (f (144 + u)))), none, none, none, none] [.int (nI u), .ref q] S rfl ⟨by decide, by decide, rfl⟩ trivial ?_
        refine tf_cV hx ftX6_doubledPlace (nx := 35) (As := [.int (nI u)]) (rest := []) (st2 := [.int (nI (f (184 + u)))]) (v_at hW (show u < f 365 by omega)) rfl lX6_46 (by first | assumption | rfl | decide) rfl ⟨rfl, by decide, by decide, by decide, rfl, rfl⟩ ?_
        refine tf_go hx ftX6_doubledPlace 1 [] 37 [some (.ref o), some (.ref q), some (.int (nI u)), some (.int (nI (f (144 + u)))), some (.int (nI (f (184 + u)))), none, none, none] [] S rfl ⟨by decide, by decide, rfl⟩ trivial ?_
        refine tf_go hx ftX6_doubledPlace 4 [] 41 [some (.ref o), some (.ref q), some (.int (nI u)), some (.int (nI (f (144 + u)))), some (.int (nI (f (184 + u)))), none, none, none] [.int ((nI u) - 1), .ref o] S rfl ⟨by decide, by decide, rfl⟩ trivial ?_
        rw [show ((nI u) - 1) = nI (u - 1) from (tf_sub (a := u) (b := 1) rfl (rfl : (1 : Int32) = nI 1) (by omega))]
        refine tf_cV hx ftX6_doubledPlace (nx := 44) (As := [.int (nI (u - 1))]) (rest := []) (st2 := [.int (nI (f (144 + (u - 1))))]) (v_at hM (show u - 1 < f 364 by omega)) rfl lX6_46 (by first | assumption | rfl | decide) rfl ⟨rfl, by decide, by decide, by decide, rfl, rfl⟩ ?_
        refine tf_go hx ftX6_doubledPlace 1 [] 46 [some (.ref o), some (.ref q), some (.int (nI u)), some (.int (nI (f (144 + u)))), some (.int (nI (f (184 + u)))), some (.int (nI (f (144 + (u - 1))))), none, none] [] S rfl ⟨by decide, by decide, rfl⟩ trivial ?_
        refine tf_go hx ftX6_doubledPlace 4 [] 50 [some (.ref o), some (.ref q), some (.int (nI u)), some (.int (nI (f (144 + u)))), some (.int (nI (f (184 + u)))), some (.int (nI (f (144 + (u - 1))))), none, none] [.int ((nI u) + 1), .ref o] S rfl ⟨by decide, by decide, rfl⟩ trivial ?_
        rw [show ((nI u) + 1) = nI (u + 1) from (tf_add (a := u) (b := 1) rfl (rfl : (1 : Int32) = nI 1))]
        refine tf_cV hx ftX6_doubledPlace (nx := 53) (As := [.int (nI (u + 1))]) (rest := []) (st2 := [.int (nI (f (144 + (u + 1))))]) (v_at hM (show u + 1 < f 364 by omega)) rfl lX6_46 (by first | assumption | rfl | decide) rfl ⟨rfl, by decide, by decide, by decide, rfl, rfl⟩ ?_
        refine tf_go hx ftX6_doubledPlace 1 [] 55 [some (.ref o), some (.ref q), some (.int (nI u)), some (.int (nI (f (144 + u)))), some (.int (nI (f (184 + u)))), some (.int (nI (f (144 + (u - 1))))), some (.int (nI (f (144 + (u + 1))))), none] [] S rfl ⟨by decide, by decide, rfl⟩ trivial ?_
        refine tf_go hx ftX6_doubledPlace 2 [] 58 [some (.ref o), some (.ref q), some (.int (nI u)), some (.int (nI (f (144 + u)))), some (.int (nI (f (184 + u)))), some (.int (nI (f (144 + (u - 1))))), some (.int (nI (f (144 + (u + 1))))), none] [.int (nI (f (144 + u))), .int (nI (f (144 + (u - 1))))] S rfl ⟨by decide, by decide, rfl⟩ trivial ?_
        by_cases e3 : f (144 + (u - 1)) = f (144 + u)
        · refine tf_go hx ftX6_doubledPlace 1 [false] 61 [some (.ref o), some (.ref q), some (.int (nI u)), some (.int (nI (f (144 + u)))), some (.int (nI (f (184 + u)))), some (.int (nI (f (144 + (u - 1))))), some (.int (nI (f (144 + (u + 1))))), none] [] S rfl ⟨by decide, by decide, rfl⟩ ⟨trivial, (tf_neF (a := (f (144 + (u - 1)))) (b := (f (144 + u))) rfl rfl (by have := hb (144 + (u - 1)); have := hb (144 + u); omega))⟩ ?_
          refine tf_go hx ftX6_doubledPlace 2 [] 65 [some (.ref o), some (.ref q), some (.int (nI u)), some (.int (nI (f (144 + u)))), some (.int (nI (f (184 + u)))), some (.int (nI (f (144 + (u - 1))))), some (.int (nI (f (144 + (u + 1))))), none] [.int (nI (f (184 + u))), .int (nI (f (144 + (u + 1))))] S rfl ⟨by decide, by decide, rfl⟩ trivial ?_
          by_cases e4 : f (144 + (u + 1)) = f (184 + u)
          · refine tf_go hx ftX6_doubledPlace 1 [true] 81 [some (.ref o), some (.ref q), some (.int (nI u)), some (.int (nI (f (144 + u)))), some (.int (nI (f (184 + u)))), some (.int (nI (f (144 + (u - 1))))), some (.int (nI (f (144 + (u + 1))))), none] [] S rfl ⟨by decide, by decide, rfl⟩ ⟨trivial, (tf_eqT (a := (f (144 + (u + 1)))) (b := (f (184 + u))) rfl rfl (by have := hb (144 + (u + 1)); have := hb (184 + u); omega))⟩ ?_
            refine tf_go hx ftX6_doubledPlace 3 [] 88 [some (.ref o), some (.ref q), some (.int (nI u)), some (.int (nI (f (144 + u)))), some (.int (nI (f (184 + u)))), some (.int (nI (f (144 + (u - 1))))), some (.int (nI (f (144 + (u + 1))))), some (.int 1)] [] S rfl ⟨by decide, by decide, rfl⟩ trivial ?_
            refine tf_go hx ftX6_doubledPlace 6 [false] 101 [some (.ref o), some (.ref q), some (.int (nI u)), some (.int (nI (f (144 + u)))), some (.int (nI (f (184 + u)))), some (.int (nI (f (144 + (u - 1))))), some (.int (nI (f (144 + (u + 1))))), some (.int 1)] [.int ((nI u) - 1)] S rfl ⟨by decide, by decide, rfl⟩ ⟨trivial, (by decide)⟩ ?_
            rw [show ((nI u) - 1) = nI (u - 1) from (tf_sub (a := u) (b := 1) rfl (rfl : (1 : Int32) = nI 1) (by omega))]
            exact tf_ret ftX6_doubledPlace hR rfl ⟨by decide, by decide⟩ rfl rfl (by rw [tf_do_eq, hu, if_pos (⟨s0, by omega, e2, Or.inl ⟨e3, e4⟩⟩), tf_on_y (by omega)]; rfl)
          · refine tf_go hx ftX6_doubledPlace 1 [false] 68 [some (.ref o), some (.ref q), some (.int (nI u)), some (.int (nI (f (144 + u)))), some (.int (nI (f (184 + u)))), some (.int (nI (f (144 + (u - 1))))), some (.int (nI (f (144 + (u + 1))))), none] [] S rfl ⟨by decide, by decide, rfl⟩ ⟨trivial, (tf_eqF (a := (f (144 + (u + 1)))) (b := (f (184 + u))) rfl rfl (by have := hb (144 + (u + 1)); have := hb (184 + u); omega) (by have := hb (144 + (u + 1)); have := hb (184 + u); omega) (by have := hb (144 + (u + 1)); have := hb (184 + u); omega))⟩ ?_
            refine tf_go hx ftX6_doubledPlace 2 [] 72 [some (.ref o), some (.ref q), some (.int (nI u)), some (.int (nI (f (144 + u)))), some (.int (nI (f (184 + u)))), some (.int (nI (f (144 + (u - 1))))), some (.int (nI (f (144 + (u + 1))))), none] [.int (nI (f (184 + u))), .int (nI (f (144 + (u - 1))))] S rfl ⟨by decide, by decide, rfl⟩ trivial ?_
            by_cases e5 : f (144 + (u - 1)) = f (184 + u)
            · refine tf_go hx ftX6_doubledPlace 1 [false] 75 [some (.ref o), some (.ref q), some (.int (nI u)), some (.int (nI (f (144 + u)))), some (.int (nI (f (184 + u)))), some (.int (nI (f (144 + (u - 1))))), some (.int (nI (f (144 + (u + 1))))), none] [] S rfl ⟨by decide, by decide, rfl⟩ ⟨trivial, (tf_neF (a := (f (144 + (u - 1)))) (b := (f (184 + u))) rfl rfl (by have := hb (144 + (u - 1)); have := hb (184 + u); omega))⟩ ?_
              refine tf_go hx ftX6_doubledPlace 2 [] 78 [some (.ref o), some (.ref q), some (.int (nI u)), some (.int (nI (f (144 + u)))), some (.int (nI (f (184 + u)))), some (.int (nI (f (144 + (u - 1))))), some (.int (nI (f (144 + (u + 1))))), none] [.int (nI (f (144 + u))), .int (nI (f (144 + (u + 1))))] S rfl ⟨by decide, by decide, rfl⟩ trivial ?_
              by_cases e6 : f (144 + (u + 1)) = f (144 + u)
              · refine tf_go hx ftX6_doubledPlace 1 [false] 81 [some (.ref o), some (.ref q), some (.int (nI u)), some (.int (nI (f (144 + u)))), some (.int (nI (f (184 + u)))), some (.int (nI (f (144 + (u - 1))))), some (.int (nI (f (144 + (u + 1))))), none] [] S rfl ⟨by decide, by decide, rfl⟩ ⟨trivial, (tf_neF (a := (f (144 + (u + 1)))) (b := (f (144 + u))) rfl rfl (by have := hb (144 + (u + 1)); have := hb (144 + u); omega))⟩ ?_
                refine tf_go hx ftX6_doubledPlace 3 [] 88 [some (.ref o), some (.ref q), some (.int (nI u)), some (.int (nI (f (144 + u)))), some (.int (nI (f (184 + u)))), some (.int (nI (f (144 + (u - 1))))), some (.int (nI (f (144 + (u + 1))))), some (.int 1)] [] S rfl ⟨by decide, by decide, rfl⟩ trivial ?_
                refine tf_go hx ftX6_doubledPlace 6 [false] 101 [some (.ref o), some (.ref q), some (.int (nI u)), some (.int (nI (f (144 + u)))), some (.int (nI (f (184 + u)))), some (.int (nI (f (144 + (u - 1))))), some (.int (nI (f (144 + (u + 1))))), some (.int 1)] [.int ((nI u) - 1)] S rfl ⟨by decide, by decide, rfl⟩ ⟨trivial, (by decide)⟩ ?_
                rw [show ((nI u) - 1) = nI (u - 1) from (tf_sub (a := u) (b := 1) rfl (rfl : (1 : Int32) = nI 1) (by omega))]
                exact tf_ret ftX6_doubledPlace hR rfl ⟨by decide, by decide⟩ rfl rfl (by rw [tf_do_eq, hu, if_pos (⟨s0, by omega, e2, Or.inr ⟨e5, e6⟩⟩), tf_on_y (by omega)]; rfl)
              · refine tf_go hx ftX6_doubledPlace 1 [true] 85 [some (.ref o), some (.ref q), some (.int (nI u)), some (.int (nI (f (144 + u)))), some (.int (nI (f (184 + u)))), some (.int (nI (f (144 + (u - 1))))), some (.int (nI (f (144 + (u + 1))))), none] [] S rfl ⟨by decide, by decide, rfl⟩ ⟨trivial, (tf_eqF (a := (f (144 + (u + 1)))) (b := (f (144 + u))) rfl rfl (by have := hb (144 + (u + 1)); have := hb (144 + u); omega) (by have := hb (144 + (u + 1)); have := hb (144 + u); omega) (by have := hb (144 + (u + 1)); have := hb (144 + u); omega))⟩ ?_
                refine tf_go hx ftX6_doubledPlace 2 [] 88 [some (.ref o), some (.ref q), some (.int (nI u)), some (.int (nI (f (144 + u)))), some (.int (nI (f (184 + u)))), some (.int (nI (f (144 + (u - 1))))), some (.int (nI (f (144 + (u + 1))))), some (.int 0)] [] S rfl ⟨by decide, by decide, rfl⟩ trivial ?_
                refine tf_go hx ftX6_doubledPlace 3 [true] 101 [some (.ref o), some (.ref q), some (.int (nI u)), some (.int (nI (f (144 + u)))), some (.int (nI (f (184 + u)))), some (.int (nI (f (144 + (u - 1))))), some (.int (nI (f (144 + (u + 1))))), some (.int 0)] [.int (-9)] S rfl ⟨by decide, by decide, rfl⟩ ⟨trivial, rfl⟩ ?_
                exact tf_ret ftX6_doubledPlace hR rfl ⟨by decide, by decide⟩ rfl rfl (by rw [tf_on_n (by rw [tf_do_eq, hu, if_neg (fun h => by rcases h.2.2.2 with h | h; exact e4 h.2; exact e6 h.2)]; decide)]; rfl)
            · refine tf_go hx ftX6_doubledPlace 1 [true] 85 [some (.ref o), some (.ref q), some (.int (nI u)), some (.int (nI (f (144 + u)))), some (.int (nI (f (184 + u)))), some (.int (nI (f (144 + (u - 1))))), some (.int (nI (f (144 + (u + 1))))), none] [] S rfl ⟨by decide, by decide, rfl⟩ ⟨trivial, (tf_eqF (a := (f (144 + (u - 1)))) (b := (f (184 + u))) rfl rfl (by have := hb (144 + (u - 1)); have := hb (184 + u); omega) (by have := hb (144 + (u - 1)); have := hb (184 + u); omega) (by have := hb (144 + (u - 1)); have := hb (184 + u); omega))⟩ ?_
              refine tf_go hx ftX6_doubledPlace 2 [] 88 [some (.ref o), some (.ref q), some (.int (nI u)), some (.int (nI (f (144 + u)))), some (.int (nI (f (184 + u)))), some (.int (nI (f (144 + (u - 1))))), some (.int (nI (f (144 + (u + 1))))), some (.int 0)] [] S rfl ⟨by decide, by decide, rfl⟩ trivial ?_
              refine tf_go hx ftX6_doubledPlace 3 [true] 101 [some (.ref o), some (.ref q), some (.int (nI u)), some (.int (nI (f (144 + u)))), some (.int (nI (f (184 + u)))), some (.int (nI (f (144 + (u - 1))))), some (.int (nI (f (144 + (u + 1))))), some (.int 0)] [.int (-9)] S rfl ⟨by decide, by decide, rfl⟩ ⟨trivial, rfl⟩ ?_
              exact tf_ret ftX6_doubledPlace hR rfl ⟨by decide, by decide⟩ rfl rfl (by rw [tf_on_n (by rw [tf_do_eq, hu, if_neg (fun h => by rcases h.2.2.2 with h | h; exact e4 h.2; exact e5 h.1)]; decide)]; rfl)
        · refine tf_go hx ftX6_doubledPlace 1 [true] 68 [some (.ref o), some (.ref q), some (.int (nI u)), some (.int (nI (f (144 + u)))), some (.int (nI (f (184 + u)))), some (.int (nI (f (144 + (u - 1))))), some (.int (nI (f (144 + (u + 1))))), none] [] S rfl ⟨by decide, by decide, rfl⟩ ⟨trivial, (tf_eqF (a := (f (144 + (u - 1)))) (b := (f (144 + u))) rfl rfl (by have := hb (144 + (u - 1)); have := hb (144 + u); omega) (by have := hb (144 + (u - 1)); have := hb (144 + u); omega) (by have := hb (144 + (u - 1)); have := hb (144 + u); omega))⟩ ?_
          refine tf_go hx ftX6_doubledPlace 2 [] 72 [some (.ref o), some (.ref q), some (.int (nI u)), some (.int (nI (f (144 + u)))), some (.int (nI (f (184 + u)))), some (.int (nI (f (144 + (u - 1))))), some (.int (nI (f (144 + (u + 1))))), none] [.int (nI (f (184 + u))), .int (nI (f (144 + (u - 1))))] S rfl ⟨by decide, by decide, rfl⟩ trivial ?_
          by_cases e5 : f (144 + (u - 1)) = f (184 + u)
          · refine tf_go hx ftX6_doubledPlace 1 [false] 75 [some (.ref o), some (.ref q), some (.int (nI u)), some (.int (nI (f (144 + u)))), some (.int (nI (f (184 + u)))), some (.int (nI (f (144 + (u - 1))))), some (.int (nI (f (144 + (u + 1))))), none] [] S rfl ⟨by decide, by decide, rfl⟩ ⟨trivial, (tf_neF (a := (f (144 + (u - 1)))) (b := (f (184 + u))) rfl rfl (by have := hb (144 + (u - 1)); have := hb (184 + u); omega))⟩ ?_
            refine tf_go hx ftX6_doubledPlace 2 [] 78 [some (.ref o), some (.ref q), some (.int (nI u)), some (.int (nI (f (144 + u)))), some (.int (nI (f (184 + u)))), some (.int (nI (f (144 + (u - 1))))), some (.int (nI (f (144 + (u + 1))))), none] [.int (nI (f (144 + u))), .int (nI (f (144 + (u + 1))))] S rfl ⟨by decide, by decide, rfl⟩ trivial ?_
            by_cases e6 : f (144 + (u + 1)) = f (144 + u)
            · refine tf_go hx ftX6_doubledPlace 1 [false] 81 [some (.ref o), some (.ref q), some (.int (nI u)), some (.int (nI (f (144 + u)))), some (.int (nI (f (184 + u)))), some (.int (nI (f (144 + (u - 1))))), some (.int (nI (f (144 + (u + 1))))), none] [] S rfl ⟨by decide, by decide, rfl⟩ ⟨trivial, (tf_neF (a := (f (144 + (u + 1)))) (b := (f (144 + u))) rfl rfl (by have := hb (144 + (u + 1)); have := hb (144 + u); omega))⟩ ?_
              refine tf_go hx ftX6_doubledPlace 3 [] 88 [some (.ref o), some (.ref q), some (.int (nI u)), some (.int (nI (f (144 + u)))), some (.int (nI (f (184 + u)))), some (.int (nI (f (144 + (u - 1))))), some (.int (nI (f (144 + (u + 1))))), some (.int 1)] [] S rfl ⟨by decide, by decide, rfl⟩ trivial ?_
              refine tf_go hx ftX6_doubledPlace 6 [false] 101 [some (.ref o), some (.ref q), some (.int (nI u)), some (.int (nI (f (144 + u)))), some (.int (nI (f (184 + u)))), some (.int (nI (f (144 + (u - 1))))), some (.int (nI (f (144 + (u + 1))))), some (.int 1)] [.int ((nI u) - 1)] S rfl ⟨by decide, by decide, rfl⟩ ⟨trivial, (by decide)⟩ ?_
              rw [show ((nI u) - 1) = nI (u - 1) from (tf_sub (a := u) (b := 1) rfl (rfl : (1 : Int32) = nI 1) (by omega))]
              exact tf_ret ftX6_doubledPlace hR rfl ⟨by decide, by decide⟩ rfl rfl (by rw [tf_do_eq, hu, if_pos (⟨s0, by omega, e2, Or.inr ⟨e5, e6⟩⟩), tf_on_y (by omega)]; rfl)
            · refine tf_go hx ftX6_doubledPlace 1 [true] 85 [some (.ref o), some (.ref q), some (.int (nI u)), some (.int (nI (f (144 + u)))), some (.int (nI (f (184 + u)))), some (.int (nI (f (144 + (u - 1))))), some (.int (nI (f (144 + (u + 1))))), none] [] S rfl ⟨by decide, by decide, rfl⟩ ⟨trivial, (tf_eqF (a := (f (144 + (u + 1)))) (b := (f (144 + u))) rfl rfl (by have := hb (144 + (u + 1)); have := hb (144 + u); omega) (by have := hb (144 + (u + 1)); have := hb (144 + u); omega) (by have := hb (144 + (u + 1)); have := hb (144 + u); omega))⟩ ?_
              refine tf_go hx ftX6_doubledPlace 2 [] 88 [some (.ref o), some (.ref q), some (.int (nI u)), some (.int (nI (f (144 + u)))), some (.int (nI (f (184 + u)))), some (.int (nI (f (144 + (u - 1))))), some (.int (nI (f (144 + (u + 1))))), some (.int 0)] [] S rfl ⟨by decide, by decide, rfl⟩ trivial ?_
              refine tf_go hx ftX6_doubledPlace 3 [true] 101 [some (.ref o), some (.ref q), some (.int (nI u)), some (.int (nI (f (144 + u)))), some (.int (nI (f (184 + u)))), some (.int (nI (f (144 + (u - 1))))), some (.int (nI (f (144 + (u + 1))))), some (.int 0)] [.int (-9)] S rfl ⟨by decide, by decide, rfl⟩ ⟨trivial, rfl⟩ ?_
              exact tf_ret ftX6_doubledPlace hR rfl ⟨by decide, by decide⟩ rfl rfl (by rw [tf_on_n (by rw [tf_do_eq, hu, if_neg (fun h => by rcases h.2.2.2 with h | h; exact e3 h.1; exact e6 h.2)]; decide)]; rfl)
          · refine tf_go hx ftX6_doubledPlace 1 [true] 85 [some (.ref o), some (.ref q), some (.int (nI u)), some (.int (nI (f (144 + u)))), some (.int (nI (f (184 + u)))), some (.int (nI (f (144 + (u - 1))))), some (.int (nI (f (144 + (u + 1))))), none] [] S rfl ⟨by decide, by decide, rfl⟩ ⟨trivial, (tf_eqF (a := (f (144 + (u - 1)))) (b := (f (184 + u))) rfl rfl (by have := hb (144 + (u - 1)); have := hb (184 + u); omega) (by have := hb (144 + (u - 1)); have := hb (184 + u); omega) (by have := hb (144 + (u - 1)); have := hb (184 + u); omega))⟩ ?_
            refine tf_go hx ftX6_doubledPlace 2 [] 88 [some (.ref o), some (.ref q), some (.int (nI u)), some (.int (nI (f (144 + u)))), some (.int (nI (f (184 + u)))), some (.int (nI (f (144 + (u - 1))))), some (.int (nI (f (144 + (u + 1))))), some (.int 0)] [] S rfl ⟨by decide, by decide, rfl⟩ trivial ?_
            refine tf_go hx ftX6_doubledPlace 3 [true] 101 [some (.ref o), some (.ref q), some (.int (nI u)), some (.int (nI (f (144 + u)))), some (.int (nI (f (184 + u)))), some (.int (nI (f (144 + (u - 1))))), some (.int (nI (f (144 + (u + 1))))), some (.int 0)] [.int (-9)] S rfl ⟨by decide, by decide, rfl⟩ ⟨trivial, rfl⟩ ?_
            exact tf_ret ftX6_doubledPlace hR rfl ⟨by decide, by decide⟩ rfl rfl (by rw [tf_on_n (by rw [tf_do_eq, hu, if_neg (fun h => by rcases h.2.2.2 with h | h; exact e3 h.1; exact e5 h.1)]; decide)]; rfl)
      · refine tf_go hx ftX6_doubledPlace 2 [false] 23 [some (.ref o), some (.ref q), some (.int (nI u)), none, none, none, none, none] [.int (-9)] S rfl ⟨by decide, by decide, rfl⟩ ⟨trivial, (tf_ltF (a := (u + 1)) (b := (f 364)) rfl rfl (by have := hb 364; omega) (by have := hb 364; omega) (by have := hb 364; omega))⟩ ?_
        exact tf_ret ftX6_doubledPlace hR rfl ⟨by decide, by decide⟩ rfl rfl (by rw [tf_on_n (by rw [tf_do_eq, hu, if_neg (fun h => e2 h.2.2.1)]; decide)]; rfl)
  · rw [tf_on_n s0]
    refine tf_go hx ftX6_doubledPlace 3 [] 8 [some (.ref o), some (.ref q), some (.int (-9)), none, none, none, none, none] [.int 1, .int (-9)] S rfl ⟨by decide, by decide, rfl⟩ trivial ?_
    refine tf_go hx ftX6_doubledPlace 2 [true] 23 [some (.ref o), some (.ref q), some (.int (-9)), none, none, none, none, none] [.int (-9)] S rfl ⟨by decide, by decide, rfl⟩ ⟨trivial, (by decide)⟩ ?_
    exact tf_ret ftX6_doubledPlace hR rfl ⟨by decide, by decide⟩ rfl rfl (by rw [tf_on_n (by rw [tf_do_eq, hu, if_neg (fun h => s0 h.1)]; decide)]; rfl)

set_option maxHeartbeats 1000000 in
theorem l_key {G : tf_G} {S : tf_Sg} {o q : Nat} {f : Nat → Nat} {r : Nat} (b t : Nat) (hM : tf_sV G S o 40 (f 364) (fun j => nI (f (144 + j)))) (hW : tf_sV G S q 40 (f 365) (fun j => nI (f (184 + j)))) (hb : ∀ k, f k < 10000) (hB : tf_bd G r) (hk : ∀ l, l < 26 → S (tf_rf G r 1) l = tf_on 30 (tf_ke f b l)) (kl : ∀ k, k < 30 → f (30 * b + k) ≤ 26) (g6 : ∀ i, i < f 364 → f (144 + i) < 26) (g7 : ∀ i, i < f 365 → f (184 + i) ≤ 26) : tf_Fn mX6_keyPlace 4 0 0 G S [.int (nI (if t = 0 then 4 else 3)), .ref o, .ref q, .ref r] G S (some (.int (tf_on 41 (tf_bk f b t)))) := by
  have m1 := hM.1.1
  have w1 := hW.1.1
  have m40 := hM.2.2.1
  have w40 := hW.2.2.1
  have ule := tf_fU_le f
  refine tf_Fn_of (own := RX6) false ⟨by decide, rfl, by decide⟩ (Nat.le_of_ble_eq_true rfl) trivial (fun x hx hR => ?_)
  show tf_K x 0 0 G S 0 [some (.int (nI (if t = 0 then 4 else 3))), some (.ref o), some (.ref q), some (.ref r), none, none, none, none] []
  have kk : ∀ l, l < 27 → tf_Fn mX0_keyAt 1 0 0 G S [.ref r, .int (nI l)] G S (some (.int (tf_on 30 (if l < 26 then tf_ke f b l else 30)))) := by
    intro l hl
    have h := b_keyAt (S := S) (nI l) hB
    by_cases c : l < 26
    · rw [if_pos ⟨nI_pos (by omega), tf_leF (a := 26) (b := l) rfl rfl c (by omega) (by omega)⟩, tf_cl_nI (by omega), hk l c] at h
      rw [if_pos c]; exact h
    · rw [if_neg (fun q => q.2 (tf_leT (a := 26) (b := l) rfl rfl (by omega) (by omega) (by omega)))] at h
      rw [if_neg c]; exact h
  have k9 : tf_Fn mX0_keyAt 1 0 0 G S [.ref r, .int (-9)] G S (some (.int (-9))) := by have h := b_keyAt (S := S) (-9) hB; rw [if_neg (by decide)] at h; exact h
  have rt := hB.1
  have ke26 : tf_ke f b 26 = 30 := tf_fst_end _ (m := 30) (k := 0) (fun i _ hi => by have := kl i (by omega); simp; omega)
  have sne : tf_sl f < 41 → f (184 + tf_sl f) ≠ 26 := fun h => (tf_sl_le h).2.2.2
  refine tf_go hx ftX6_keyPlace 2 [] 2 [some (.int (nI (if t = 0 then 4 else 3))), some (.ref o), some (.ref q), some (.ref r), none, none, none, none] [.ref q, .ref o] S rfl ⟨by decide, by decide, rfl⟩ trivial ?_
  refine tf_cS hx ftX6_keyPlace (nx := 5) (As := [.ref o, .ref q]) (rest := []) (st2 := [.int (tf_on 41 (tf_sl f))]) (l_slip hM hW hb) rfl lX6_9 rfl ⟨rfl, by decide, by decide, by decide, rfl, rfl⟩ ?_
  have sle : tf_sl f < 41 → f 365 = f 364 ∧ tf_sl f < f 364 := fun h => ⟨(tf_sl_le h).1, (tf_sl_le h).2.1⟩
  generalize hu : tf_sl f = u at *
  by_cases s0 : u < 41
  · obtain ⟨s1, s2⟩ := sle s0
    rw [tf_on_y s0]
    have ml := g6 u s2
    have wl := g7 u (by omega)
    have wn := sne s0
    refine tf_go hx ftX6_keyPlace 4 [] 11 [some (.int (nI (if t = 0 then 4 else 3))), some (.ref o), some (.ref q), some (.ref r), some (.int (nI u)), none, none, none] [.int (nI u), .ref o, .ref r] S rfl ⟨by decide, by decide, rfl⟩ trivial ?_
    refine tf_cV hx ftX6_keyPlace (nx := 14) (As := [.int (nI u)]) (rest := [.ref r]) (st2 := [.int (nI (f (144 + u))), .ref r]) (v_at hM (show u < f 364 by omega)) rfl lX6_46 (by first | assumption | rfl | decide) rfl ⟨rfl, by decide, by decide, by decide, rfl, rfl⟩ ?_
    refine tf_cV hx ftX6_keyPlace (nx := 17) (As := [.int (nI (f (144 + u)))]) (rest := []) (st2 := [.int (tf_on 30 (tf_ke f b (f (144 + u))))]) ((by have h := kk (f (144 + u)) (by omega); rw [if_pos ml] at h; exact h)) rfl lX6_57 (by first | assumption | rfl | decide) rfl ⟨rfl, by decide, by decide, by decide, rfl, rfl⟩ ?_
    refine tf_go hx ftX6_keyPlace 1 [] 19 [some (.int (nI (if t = 0 then 4 else 3))), some (.ref o), some (.ref q), some (.ref r), some (.int (nI u)), some (.int (tf_on 30 (tf_ke f b (f (144 + u))))), none, none] [] S rfl ⟨by decide, by decide, rfl⟩ trivial ?_
    refine tf_go hx ftX6_keyPlace 3 [] 23 [some (.int (nI (if t = 0 then 4 else 3))), some (.ref o), some (.ref q), some (.ref r), some (.int (nI u)), some (.int (tf_on 30 (tf_ke f b (f (144 + u))))), none, none] [.int (nI u), .ref q, .ref r] S rfl ⟨by decide, by decide, rfl⟩ trivial ?_
    refine tf_cV hx ftX6_keyPlace (nx := 26) (As := [.int (nI u)]) (rest := [.ref r]) (st2 := [.int (nI (f (184 + u))), .ref r]) (v_at hW (show u < f 365 by omega)) rfl lX6_46 (by first | assumption | rfl | decide) rfl ⟨rfl, by decide, by decide, by decide, rfl, rfl⟩ ?_
    refine tf_cV hx ftX6_keyPlace (nx := 29) (As := [.int (nI (f (184 + u)))]) (rest := []) (st2 := [.int (tf_on 30 (tf_ke f b (f (184 + u))))]) ((by have h := kk (f (184 + u)) (by omega); rw [if_pos (show f (184 + u) < 26 by omega)] at h; exact h)) rfl lX6_57 (by first | assumption | rfl | decide) rfl ⟨rfl, by decide, by decide, by decide, rfl, rfl⟩ ?_
    refine tf_go hx ftX6_keyPlace 1 [] 31 [some (.int (nI (if t = 0 then 4 else 3))), some (.ref o), some (.ref q), some (.ref r), some (.int (nI u)), some (.int (tf_on 30 (tf_ke f b (f (144 + u))))), some (.int (tf_on 30 (tf_ke f b (f (184 + u))))), none] [] S rfl ⟨by decide, by decide, rfl⟩ trivial ?_
    have c1 := tf_ke_le f b (f (144 + u))
    have c2 := tf_ke_le f b (f (184 + u))
    have bk : tf_bk f b t = if u < 41 ∧ tf_ke f b (f (144 + u)) < 30 ∧ tf_ke f b (f (184 + u)) < 30 ∧ (if t ≠ 0 then tf_di (tf_ke f b (f (144 + u)) / 10) (tf_ke f b (f (184 + u)) / 10) = 0 ∧ tf_ke f b (f (184 + u)) % 10 = 9 - tf_ke f b (f (144 + u)) % 10 else tf_di (tf_ke f b (f (144 + u)) / 10) (tf_ke f b (f (184 + u)) / 10) + tf_di (tf_ke f b (f (144 + u)) % 10) (tf_ke f b (f (184 + u)) % 10) = 1) then u else 41 := by unfold tf_bk; rw [hu]
    rw [bk] at hR
    generalize tf_ke f b (f (144 + u)) = a at *
    generalize tf_ke f b (f (184 + u)) = c at *
    refine tf_go hx ftX6_keyPlace 1 [] 33 [some (.int (nI (if t = 0 then 4 else 3))), some (.ref o), some (.ref q), some (.ref r), some (.int (nI u)), some (.int (tf_on 30 a)), some (.int (tf_on 30 c)), none] [.int (nI u)] S rfl ⟨by decide, by decide, rfl⟩ trivial ?_
    refine tf_go hx ftX6_keyPlace 1 [false] 36 [some (.int (nI (if t = 0 then 4 else 3))), some (.ref o), some (.ref q), some (.ref r), some (.int (nI u)), some (.int (tf_on 30 a)), some (.int (tf_on 30 c)), none] [] S rfl ⟨by decide, by decide, rfl⟩ ⟨trivial, (tf_ltF (a := u) (b := 0) rfl (rfl : (0 : Int32) = nI 0) (by omega) (by omega) (by omega))⟩ ?_
    by_cases e1 : a < 30
    · rw [tf_on_y e1]
      refine tf_go hx ftX6_keyPlace 1 [] 38 [some (.int (nI (if t = 0 then 4 else 3))), some (.ref o), some (.ref q), some (.ref r), some (.int (nI u)), some (.int (nI a)), some (.int (tf_on 30 c)), none] [.int (nI a)] S rfl ⟨by decide, by decide, rfl⟩ trivial ?_
      refine tf_cN hx ftX6_keyPlace (nx := 41) (As := [.int (nI a)]) (rest := []) (st2 := [.int (if ¬ (nI a) < 0 ∧ ¬ 30 ≤ (nI a) then 0 else 1)]) (c_noKey (nI a)) rfl lX6_62 rfl ⟨rfl, by decide, by decide, by decide, rfl, rfl⟩ ?_
      rw [if_pos (show ¬ nI a < 0 ∧ ¬ 30 ≤ nI a from ⟨tf_ltF (a := a) (b := 0) rfl rfl (by omega) (by omega) (by omega), tf_leF (a := 30) (b := a) rfl rfl (by omega) (by omega) (by omega)⟩)]
      refine tf_go hx ftX6_keyPlace 1 [false] 44 [some (.int (nI (if t = 0 then 4 else 3))), some (.ref o), some (.ref q), some (.ref r), some (.int (nI u)), some (.int (nI a)), some (.int (tf_on 30 c)), none] [] S rfl ⟨by decide, by decide, rfl⟩ ⟨trivial, (by decide)⟩ ?_
      by_cases e2 : c < 30
      · rw [tf_on_y e2]
        refine tf_go hx ftX6_keyPlace 1 [] 46 [some (.int (nI (if t = 0 then 4 else 3))), some (.ref o), some (.ref q), some (.ref r), some (.int (nI u)), some (.int (nI a)), some (.int (nI c)), none] [.int (nI c)] S rfl ⟨by decide, by decide, rfl⟩ trivial ?_
        refine tf_cN hx ftX6_keyPlace (nx := 49) (As := [.int (nI c)]) (rest := []) (st2 := [.int (if ¬ (nI c) < 0 ∧ ¬ 30 ≤ (nI c) then 0 else 1)]) (c_noKey (nI c)) rfl lX6_62 rfl ⟨rfl, by decide, by decide, by decide, rfl, rfl⟩ ?_
        rw [if_pos (show ¬ nI c < 0 ∧ ¬ 30 ≤ nI c from ⟨tf_ltF (a := c) (b := 0) rfl rfl (by omega) (by omega) (by omega), tf_leF (a := 30) (b := c) rfl rfl (by omega) (by omega) (by omega)⟩)]
        refine tf_go hx ftX6_keyPlace 1 [true] 55 [some (.int (nI (if t = 0 then 4 else 3))), some (.ref o), some (.ref q), some (.ref r), some (.int (nI u)), some (.int (nI a)), some (.int (nI c)), none] [] S rfl ⟨by decide, by decide, rfl⟩ ⟨trivial, rfl⟩ ?_
        refine tf_go hx ftX6_keyPlace 2 [] 57 [some (.int (nI (if t = 0 then 4 else 3))), some (.ref o), some (.ref q), some (.ref r), some (.int (nI u)), some (.int (nI a)), some (.int (nI c)), none] [.int 3, .int (nI (if t = 0 then 4 else 3))] S rfl ⟨by decide, by decide, rfl⟩ trivial ?_
        by_cases e3 : t = 0
        · rw [show nI (if t = 0 then 4 else 3) = nI 4 by rw [if_pos e3]]
          refine tf_go hx ftX6_keyPlace 1 [true] 70 [some (.int (nI 4)), some (.ref o), some (.ref q), some (.ref r), some (.int (nI u)), some (.int (nI a)), some (.int (nI c)), none] [] S rfl ⟨by decide, by decide, rfl⟩ ⟨trivial, (tf_eqF (a := 4) (b := 3) rfl (rfl : (3 : Int32) = nI 3) (by omega) (by omega) (by omega))⟩ ?_
          refine tf_go hx ftX6_keyPlace 2 [] 74 [some (.int (nI 4)), some (.ref o), some (.ref q), some (.ref r), some (.int (nI u)), some (.int (nI a)), some (.int (nI c)), none] [.int (nI c), .int (nI a)] S rfl ⟨by decide, by decide, rfl⟩ trivial ?_
          refine tf_cS hx ftX6_keyPlace (nx := 77) (As := [.int (nI a), .int (nI c)]) (rest := []) (st2 := [.int (nI (if tf_di (a / 10) (c / 10) + tf_di (a % 10) (c % 10) = 1 then 1 else 0))]) (k_beside a c e1 e2) rfl lX6_72 rfl ⟨rfl, by decide, by decide, by decide, rfl, rfl⟩ ?_
          by_cases e4 : tf_di (a / 10) (c / 10) + tf_di (a % 10) (c % 10) = 1
          · rw [if_pos e4]
            refine tf_go hx ftX6_keyPlace 1 [] 79 [some (.int (nI 4)), some (.ref o), some (.ref q), some (.ref r), some (.int (nI u)), some (.int (nI a)), some (.int (nI c)), some (.int (nI 1))] [] S rfl ⟨by decide, by decide, rfl⟩ trivial ?_
            refine tf_go hx ftX6_keyPlace 4 [false] 91 [some (.int (nI 4)), some (.ref o), some (.ref q), some (.ref r), some (.int (nI u)), some (.int (nI a)), some (.int (nI c)), some (.int (nI 1))] [.int (nI u)] S rfl ⟨by decide, by decide, rfl⟩ ⟨trivial, (by decide)⟩ ?_
            exact tf_ret ftX6_keyPlace hR rfl ⟨by decide, by decide⟩ rfl rfl (by rw [if_pos ⟨s0, e1, e2, by rw [if_neg (fun h => h e3)]; exact e4⟩, tf_on_y s0]; rfl)
          · rw [if_neg e4]
            refine tf_go hx ftX6_keyPlace 1 [] 79 [some (.int (nI 4)), some (.ref o), some (.ref q), some (.ref r), some (.int (nI u)), some (.int (nI a)), some (.int (nI c)), some (.int (nI 0))] [] S rfl ⟨by decide, by decide, rfl⟩ trivial ?_
            refine tf_go hx ftX6_keyPlace 3 [true] 91 [some (.int (nI 4)), some (.ref o), some (.ref q), some (.ref r), some (.int (nI u)), some (.int (nI a)), some (.int (nI c)), some (.int (nI 0))] [.int (-9)] S rfl ⟨by decide, by decide, rfl⟩ ⟨trivial, rfl⟩ ?_
            exact tf_ret ftX6_keyPlace hR rfl ⟨by decide, by decide⟩ rfl rfl (by rw [if_neg (fun h => by have h2 := h.2.2.2; rw [if_neg (fun h => h e3)] at h2; exact e4 h2)]; rfl)
        · rw [show nI (if t = 0 then 4 else 3) = nI 3 by rw [if_neg e3]]
          refine tf_go hx ftX6_keyPlace 1 [false] 60 [some (.int (nI 3)), some (.ref o), some (.ref q), some (.ref r), some (.int (nI u)), some (.int (nI a)), some (.int (nI c)), none] [] S rfl ⟨by decide, by decide, rfl⟩ ⟨trivial, (tf_neF (a := 3) (b := 3) rfl (rfl : (3 : Int32) = nI 3) (by omega))⟩ ?_
          refine tf_go hx ftX6_keyPlace 2 [] 64 [some (.int (nI 3)), some (.ref o), some (.ref q), some (.ref r), some (.int (nI u)), some (.int (nI a)), some (.int (nI c)), none] [.int (nI c), .int (nI a)] S rfl ⟨by decide, by decide, rfl⟩ trivial ?_
          refine tf_cS hx ftX6_keyPlace (nx := 67) (As := [.int (nI a), .int (nI c)]) (rest := []) (st2 := [.int (nI (if tf_di (a / 10) (c / 10) = 0 ∧ a % 10 + c % 10 = 9 then 1 else 0))]) (k_mirrored a c e1 e2) rfl lX6_66 rfl ⟨rfl, by decide, by decide, by decide, rfl, rfl⟩ ?_
          refine tf_go hx ftX6_keyPlace 1 [] 77 [some (.int (nI 3)), some (.ref o), some (.ref q), some (.ref r), some (.int (nI u)), some (.int (nI a)), some (.int (nI c)), none] [.int (nI (if tf_di (a / 10) (c / 10) = 0 ∧ a % 10 + c % 10 = 9 then 1 else 0))] S rfl ⟨by decide, by decide, rfl⟩ trivial ?_
          by_cases e4 : tf_di (a / 10) (c / 10) = 0 ∧ a % 10 + c % 10 = 9
          · rw [if_pos e4]
            refine tf_go hx ftX6_keyPlace 1 [] 79 [some (.int (nI 3)), some (.ref o), some (.ref q), some (.ref r), some (.int (nI u)), some (.int (nI a)), some (.int (nI c)), some (.int (nI 1))] [] S rfl ⟨by decide, by decide, rfl⟩ trivial ?_
            refine tf_go hx ftX6_keyPlace 4 [false] 91 [some (.int (nI 3)), some (.ref o), some (.ref q), some (.ref r), some (.int (nI u)), some (.int (nI a)), some (.int (nI c)), some (.int (nI 1))] [.int (nI u)] S rfl ⟨by decide, by decide, rfl⟩ ⟨trivial, (by decide)⟩ ?_
            exact tf_ret ftX6_keyPlace hR rfl ⟨by decide, by decide⟩ rfl rfl (by rw [if_pos ⟨s0, e1, e2, by rw [if_pos e3]; exact ⟨e4.1, by omega⟩⟩, tf_on_y s0]; rfl)
          · rw [if_neg e4]
            refine tf_go hx ftX6_keyPlace 1 [] 79 [some (.int (nI 3)), some (.ref o), some (.ref q), some (.ref r), some (.int (nI u)), some (.int (nI a)), some (.int (nI c)), some (.int (nI 0))] [] S rfl ⟨by decide, by decide, rfl⟩ trivial ?_
            refine tf_go hx ftX6_keyPlace 3 [true] 91 [some (.int (nI 3)), some (.ref o), some (.ref q), some (.ref r), some (.int (nI u)), some (.int (nI a)), some (.int (nI c)), some (.int (nI 0))] [.int (-9)] S rfl ⟨by decide, by decide, rfl⟩ ⟨trivial, rfl⟩ ?_
            exact tf_ret ftX6_keyPlace hR rfl ⟨by decide, by decide⟩ rfl rfl (by rw [if_neg (fun h => by have h2 := h.2.2.2; rw [if_pos e3] at h2; exact e4 ⟨h2.1, by omega⟩)]; rfl)
      · rw [tf_on_n e2]
        refine tf_go hx ftX6_keyPlace 1 [] 46 [some (.int (nI (if t = 0 then 4 else 3))), some (.ref o), some (.ref q), some (.ref r), some (.int (nI u)), some (.int (nI a)), some (.int (-9)), none] [.int (-9)] S rfl ⟨by decide, by decide, rfl⟩ trivial ?_
        refine tf_cN hx ftX6_keyPlace (nx := 49) (As := [.int (-9)]) (rest := []) (st2 := [.int (if ¬ (-9) < 0 ∧ ¬ 30 ≤ (-9) then 0 else 1)]) (c_noKey (-9)) rfl lX6_62 rfl ⟨rfl, by decide, by decide, by decide, rfl, rfl⟩ ?_
        rw [if_neg (show ¬ (¬ (-9 : Int32) < 0 ∧ ¬ 30 ≤ (-9 : Int32)) by decide)]
        refine tf_go hx ftX6_keyPlace 2 [false] 54 [some (.int (nI (if t = 0 then 4 else 3))), some (.ref o), some (.ref q), some (.ref r), some (.int (nI u)), some (.int (nI a)), some (.int (-9)), none] [.int (-9)] S rfl ⟨by decide, by decide, rfl⟩ ⟨trivial, (by decide)⟩ ?_
        exact tf_ret ftX6_keyPlace hR rfl ⟨by decide, by decide⟩ rfl rfl (by rw [if_neg (fun h => e2 h.2.2.1)]; rfl)
    · rw [tf_on_n e1]
      refine tf_go hx ftX6_keyPlace 1 [] 38 [some (.int (nI (if t = 0 then 4 else 3))), some (.ref o), some (.ref q), some (.ref r), some (.int (nI u)), some (.int (-9)), some (.int (tf_on 30 c)), none] [.int (-9)] S rfl ⟨by decide, by decide, rfl⟩ trivial ?_
      refine tf_cN hx ftX6_keyPlace (nx := 41) (As := [.int (-9)]) (rest := []) (st2 := [.int (if ¬ (-9) < 0 ∧ ¬ 30 ≤ (-9) then 0 else 1)]) (c_noKey (-9)) rfl lX6_62 rfl ⟨rfl, by decide, by decide, by decide, rfl, rfl⟩ ?_
      rw [if_neg (show ¬ (¬ (-9 : Int32) < 0 ∧ ¬ 30 ≤ (-9 : Int32)) by decide)]
      refine tf_go hx ftX6_keyPlace 2 [true] 54 [some (.int (nI (if t = 0 then 4 else 3))), some (.ref o), some (.ref q), some (.ref r), some (.int (nI u)), some (.int (-9)), some (.int (tf_on 30 c)), none] [.int (-9)] S rfl ⟨by decide, by decide, rfl⟩ ⟨trivial, (by decide)⟩ ?_
      exact tf_ret ftX6_keyPlace hR rfl ⟨by decide, by decide⟩ rfl rfl (by rw [if_neg (fun h => e1 h.2.1)]; rfl)
  · rw [tf_on_n s0]
    refine tf_go hx ftX6_keyPlace 4 [] 11 [some (.int (nI (if t = 0 then 4 else 3))), some (.ref o), some (.ref q), some (.ref r), some (.int (-9)), none, none, none] [.int (-9), .ref o, .ref r] S rfl ⟨by decide, by decide, rfl⟩ trivial ?_
    refine tf_cV hx ftX6_keyPlace (nx := 14) (As := [.int (-9)]) (rest := [.ref r]) (st2 := [.int (-9), .ref r]) (v_out hM (Or.inl (by decide))) rfl lX6_46 (by first | assumption | rfl | decide) rfl ⟨rfl, by decide, by decide, by decide, rfl, rfl⟩ ?_
    refine tf_cV hx ftX6_keyPlace (nx := 17) (As := [.int (-9)]) (rest := []) (st2 := [.int (-9)]) (k9) rfl lX6_57 (by first | assumption | rfl | decide) rfl ⟨rfl, by decide, by decide, by decide, rfl, rfl⟩ ?_
    refine tf_go hx ftX6_keyPlace 1 [] 19 [some (.int (nI (if t = 0 then 4 else 3))), some (.ref o), some (.ref q), some (.ref r), some (.int (-9)), some (.int (-9)), none, none] [] S rfl ⟨by decide, by decide, rfl⟩ trivial ?_
    refine tf_go hx ftX6_keyPlace 3 [] 23 [some (.int (nI (if t = 0 then 4 else 3))), some (.ref o), some (.ref q), some (.ref r), some (.int (-9)), some (.int (-9)), none, none] [.int (-9), .ref q, .ref r] S rfl ⟨by decide, by decide, rfl⟩ trivial ?_
    refine tf_cV hx ftX6_keyPlace (nx := 26) (As := [.int (-9)]) (rest := [.ref r]) (st2 := [.int (-9), .ref r]) (v_out hW (Or.inl (by decide))) rfl lX6_46 (by first | assumption | rfl | decide) rfl ⟨rfl, by decide, by decide, by decide, rfl, rfl⟩ ?_
    refine tf_cV hx ftX6_keyPlace (nx := 29) (As := [.int (-9)]) (rest := []) (st2 := [.int (-9)]) (k9) rfl lX6_57 (by first | assumption | rfl | decide) rfl ⟨rfl, by decide, by decide, by decide, rfl, rfl⟩ ?_
    refine tf_go hx ftX6_keyPlace 1 [] 31 [some (.int (nI (if t = 0 then 4 else 3))), some (.ref o), some (.ref q), some (.ref r), some (.int (-9)), some (.int (-9)), some (.int (-9)), none] [] S rfl ⟨by decide, by decide, rfl⟩ trivial ?_
    refine tf_go hx ftX6_keyPlace 1 [] 33 [some (.int (nI (if t = 0 then 4 else 3))), some (.ref o), some (.ref q), some (.ref r), some (.int (-9)), some (.int (-9)), some (.int (-9)), none] [.int (-9)] S rfl ⟨by decide, by decide, rfl⟩ trivial ?_
    refine tf_go hx ftX6_keyPlace 2 [true] 54 [some (.int (nI (if t = 0 then 4 else 3))), some (.ref o), some (.ref q), some (.ref r), some (.int (-9)), some (.int (-9)), some (.int (-9)), none] [.int (-9)] S rfl ⟨by decide, by decide, rfl⟩ ⟨trivial, (by decide)⟩ ?_
    exact tf_ret ftX6_keyPlace hR rfl ⟨by decide, by decide⟩ rfl rfl (by rw [tf_on_n (by unfold tf_bk; rw [hu, if_neg (fun h => s0 h.1)]; decide)]; rfl)

theorem tf_n9 {a : Nat} (h : a < 2147483648) : ¬ nI a = -9 := fun q => by have h2 := nI_pos h; rw [q] at h2; exact h2 (by decide)

set_option maxHeartbeats 1000000 in
theorem l_early {G : tf_G} {S : tf_Sg} {o q : Nat} {f : Nat → Nat} (hM : tf_sV G S o 40 (f 364) (fun j => nI (f (144 + j)))) (hW : tf_sV G S q 40 (f 365) (fun j => nI (f (184 + j)))) (hb : ∀ k, f k < 10000) (g6 : ∀ i, i < f 364 → f (144 + i) < 26) : tf_Fn mX6_earlyPlace 4 0 0 G S [.ref o, .ref q] G S (some (.int (tf_on 41 (tf_ea f)))) := by
  have m1 := hM.1.1
  have w1 := hW.1.1
  have m40 := hM.2.2.1
  have w40 := hW.2.2.1
  have ule := tf_fU_le f
  refine tf_Fn_of (own := RX6) false ⟨by decide, rfl, by decide⟩ (Nat.le_of_ble_eq_true rfl) trivial (fun x hx hR => ?_)
  show tf_K x 0 0 G S 0 [some (.ref o), some (.ref q), none, none] []
  refine tf_go hx ftX6_earlyPlace 2 [] 2 [some (.ref o), some (.ref q), none, none] [.ref q, .ref o] S rfl ⟨by decide, by decide, rfl⟩ trivial ?_
  refine tf_cS hx ftX6_earlyPlace (nx := 5) (As := [.ref o, .ref q]) (rest := []) (st2 := [.int (tf_on 41 (tf_sl f))]) (l_slip hM hW hb) rfl lX6_9 rfl ⟨rfl, by decide, by decide, by decide, rfl, rfl⟩ ?_
  have sle : tf_sl f < 41 → f 365 = f 364 ∧ tf_sl f < f 364 := fun h => ⟨(tf_sl_le h).1, (tf_sl_le h).2.1⟩
  generalize hu : tf_sl f = u at *
  by_cases s0 : u < 41
  · obtain ⟨s1, s2⟩ := sle s0
    rw [tf_on_y s0]
    have m26 := g6
    refine tf_go hx ftX6_earlyPlace 2 [] 7 [some (.ref o), some (.ref q), some (.int (nI u)), none] [.int (nI u)] S rfl ⟨by decide, by decide, rfl⟩ trivial ?_
    refine tf_go hx ftX6_earlyPlace 1 [true] 13 [some (.ref o), some (.ref q), some (.int (nI u)), none] [] S rfl ⟨by decide, by decide, rfl⟩ ⟨trivial, (tf_leT (a := 0) (b := u) (rfl : (0 : Int32) = nI 0) rfl (by omega) (by omega) (by omega))⟩ ?_
    refine tf_go hx ftX6_earlyPlace 2 [] 15 [some (.ref o), some (.ref q), some (.int (nI u)), none] [.int (nI u), .ref q] S rfl ⟨by decide, by decide, rfl⟩ trivial ?_
    refine tf_cV hx ftX6_earlyPlace (nx := 18) (As := [.int (nI u)]) (rest := []) (st2 := [.int (nI (f (184 + u)))]) (v_at hW (show u < f 365 by omega)) rfl lX6_46 (by first | assumption | rfl | decide) rfl ⟨rfl, by decide, by decide, by decide, rfl, rfl⟩ ?_
    refine tf_go hx ftX6_earlyPlace 4 [] 22 [some (.ref o), some (.ref q), some (.int (nI u)), none] [.int ((nI u) + 1), .ref o, .int (nI (f (184 + u)))] S rfl ⟨by decide, by decide, rfl⟩ trivial ?_
    rw [show ((nI u) + 1) = nI (u + 1) from (tf_add (a := u) (b := 1) rfl (rfl : (1 : Int32) = nI 1))]
    by_cases e1 : u + 1 < f 364
    · refine tf_cV hx ftX6_earlyPlace (nx := 25) (As := [.int (nI (u + 1))]) (rest := [.int (nI (f (184 + u)))]) (st2 := [.int (nI (f (144 + (u + 1)))), .int (nI (f (184 + u)))]) (v_at hM (show u + 1 < f 364 by omega)) rfl lX6_46 (by first | assumption | rfl | decide) rfl ⟨rfl, by decide, by decide, by decide, rfl, rfl⟩ ?_
      by_cases e2 : f (144 + (u + 1)) = f (184 + u)
      · refine tf_go hx ftX6_earlyPlace 1 [true] 43 [some (.ref o), some (.ref q), some (.int (nI u)), none] [] S rfl ⟨by decide, by decide, rfl⟩ ⟨trivial, (tf_eqT (a := (f (184 + u))) (b := (f (144 + (u + 1)))) rfl rfl (by have := hb (184 + u); have := hb (144 + (u + 1)); omega))⟩ ?_
        refine tf_go hx ftX6_earlyPlace 4 [] 50 [some (.ref o), some (.ref q), some (.int (nI u)), some (.int 1)] [.int 1] S rfl ⟨by decide, by decide, rfl⟩ trivial ?_
        refine tf_go hx ftX6_earlyPlace 3 [false] 59 [some (.ref o), some (.ref q), some (.int (nI u)), some (.int 1)] [.int (nI u)] S rfl ⟨by decide, by decide, rfl⟩ ⟨trivial, (by decide)⟩ ?_
        exact tf_ret ftX6_earlyPlace hR rfl ⟨by decide, by decide⟩ rfl rfl (by rw [tf_ea_eq, hu, if_pos (⟨s0, Or.inl ⟨e1, e2⟩⟩), tf_on_y (by omega)]; rfl)
      · refine tf_go hx ftX6_earlyPlace 1 [false] 28 [some (.ref o), some (.ref q), some (.int (nI u)), none] [] S rfl ⟨by decide, by decide, rfl⟩ ⟨trivial, (tf_eqF (a := (f (184 + u))) (b := (f (144 + (u + 1)))) rfl rfl (by have := hb (184 + u); have := hb (144 + (u + 1)); omega) (by have := hb (184 + u); have := hb (144 + (u + 1)); omega) (by have := hb (184 + u); have := hb (144 + (u + 1)); omega))⟩ ?_
        refine tf_go hx ftX6_earlyPlace 2 [] 30 [some (.ref o), some (.ref q), some (.int (nI u)), none] [.int (nI u), .ref q] S rfl ⟨by decide, by decide, rfl⟩ trivial ?_
        refine tf_cV hx ftX6_earlyPlace (nx := 33) (As := [.int (nI u)]) (rest := []) (st2 := [.int (nI (f (184 + u)))]) (v_at hW (show u < f 365 by omega)) rfl lX6_46 (by first | assumption | rfl | decide) rfl ⟨rfl, by decide, by decide, by decide, rfl, rfl⟩ ?_
        refine tf_go hx ftX6_earlyPlace 4 [] 37 [some (.ref o), some (.ref q), some (.int (nI u)), none] [.int ((nI u) + 2), .ref o, .int (nI (f (184 + u)))] S rfl ⟨by decide, by decide, rfl⟩ trivial ?_
        rw [show ((nI u) + 2) = nI (u + 2) from (tf_add (a := u) (b := 2) rfl (rfl : (2 : Int32) = nI 2))]
        by_cases e3 : u + 2 < f 364
        · refine tf_cV hx ftX6_earlyPlace (nx := 40) (As := [.int (nI (u + 2))]) (rest := [.int (nI (f (184 + u)))]) (st2 := [.int (nI (f (144 + (u + 2)))), .int (nI (f (184 + u)))]) (v_at hM (show u + 2 < f 364 by omega)) rfl lX6_46 (by first | assumption | rfl | decide) rfl ⟨rfl, by decide, by decide, by decide, rfl, rfl⟩ ?_
          by_cases e4 : f (144 + (u + 2)) = f (184 + u)
          · refine tf_go hx ftX6_earlyPlace 1 [false] 43 [some (.ref o), some (.ref q), some (.int (nI u)), none] [] S rfl ⟨by decide, by decide, rfl⟩ ⟨trivial, (tf_neF (a := (f (184 + u))) (b := (f (144 + (u + 2)))) rfl rfl (by have := hb (184 + u); have := hb (144 + (u + 2)); omega))⟩ ?_
            refine tf_go hx ftX6_earlyPlace 4 [] 50 [some (.ref o), some (.ref q), some (.int (nI u)), some (.int 1)] [.int 1] S rfl ⟨by decide, by decide, rfl⟩ trivial ?_
            refine tf_go hx ftX6_earlyPlace 3 [false] 59 [some (.ref o), some (.ref q), some (.int (nI u)), some (.int 1)] [.int (nI u)] S rfl ⟨by decide, by decide, rfl⟩ ⟨trivial, (by decide)⟩ ?_
            exact tf_ret ftX6_earlyPlace hR rfl ⟨by decide, by decide⟩ rfl rfl (by rw [tf_ea_eq, hu, if_pos (⟨s0, Or.inr ⟨e3, e4⟩⟩), tf_on_y (by omega)]; rfl)
          · refine tf_go hx ftX6_earlyPlace 1 [true] 47 [some (.ref o), some (.ref q), some (.int (nI u)), none] [] S rfl ⟨by decide, by decide, rfl⟩ ⟨trivial, (tf_eqF (a := (f (184 + u))) (b := (f (144 + (u + 2)))) rfl rfl (by have := hb (184 + u); have := hb (144 + (u + 2)); omega) (by have := hb (184 + u); have := hb (144 + (u + 2)); omega) (by have := hb (184 + u); have := hb (144 + (u + 2)); omega))⟩ ?_
            refine tf_go hx ftX6_earlyPlace 3 [] 50 [some (.ref o), some (.ref q), some (.int (nI u)), some (.int 0)] [.int 0] S rfl ⟨by decide, by decide, rfl⟩ trivial ?_
            refine tf_go hx ftX6_earlyPlace 2 [true] 59 [some (.ref o), some (.ref q), some (.int (nI u)), some (.int 0)] [.int (-9)] S rfl ⟨by decide, by decide, rfl⟩ ⟨trivial, rfl⟩ ?_
            exact tf_ret ftX6_earlyPlace hR rfl ⟨by decide, by decide⟩ rfl rfl (by rw [tf_on_n (by rw [tf_ea_eq, hu, if_neg (fun h => by rcases h.2 with h | h; exact e2 h.2; exact e4 h.2)]; decide)]; rfl)
        · refine tf_cV hx ftX6_earlyPlace (nx := 40) (As := [.int (nI (u + 2))]) (rest := [.int (nI (f (184 + u)))]) (st2 := [.int (-9), .int (nI (f (184 + u)))]) (v_outn hM (show f 364 ≤ u + 2 by omega) (by omega)) rfl lX6_46 (by first | assumption | rfl | decide) rfl ⟨rfl, by decide, by decide, by decide, rfl, rfl⟩ ?_
          refine tf_go hx ftX6_earlyPlace 1 [true] 47 [some (.ref o), some (.ref q), some (.int (nI u)), none] [] S rfl ⟨by decide, by decide, rfl⟩ ⟨trivial, (by have := hb (184 + u); exact fun q => absurd q (by rw [show (-9 : Int32) = -9 from rfl]; exact tf_n9 (by omega)))⟩ ?_
          refine tf_go hx ftX6_earlyPlace 3 [] 50 [some (.ref o), some (.ref q), some (.int (nI u)), some (.int 0)] [.int 0] S rfl ⟨by decide, by decide, rfl⟩ trivial ?_
          refine tf_go hx ftX6_earlyPlace 2 [true] 59 [some (.ref o), some (.ref q), some (.int (nI u)), some (.int 0)] [.int (-9)] S rfl ⟨by decide, by decide, rfl⟩ ⟨trivial, rfl⟩ ?_
          exact tf_ret ftX6_earlyPlace hR rfl ⟨by decide, by decide⟩ rfl rfl (by rw [tf_on_n (by rw [tf_ea_eq, hu, if_neg (fun h => by rcases h.2 with h | h; exact e2 h.2; exact e3 h.1)]; decide)]; rfl)
    · refine tf_cV hx ftX6_earlyPlace (nx := 25) (As := [.int (nI (u + 1))]) (rest := [.int (nI (f (184 + u)))]) (st2 := [.int (-9), .int (nI (f (184 + u)))]) (v_outn hM (show f 364 ≤ u + 1 by omega) (by omega)) rfl lX6_46 (by first | assumption | rfl | decide) rfl ⟨rfl, by decide, by decide, by decide, rfl, rfl⟩ ?_
      refine tf_go hx ftX6_earlyPlace 1 [false] 28 [some (.ref o), some (.ref q), some (.int (nI u)), none] [] S rfl ⟨by decide, by decide, rfl⟩ ⟨trivial, (by have := hb (184 + u); exact tf_n9 (by omega))⟩ ?_
      refine tf_go hx ftX6_earlyPlace 2 [] 30 [some (.ref o), some (.ref q), some (.int (nI u)), none] [.int (nI u), .ref q] S rfl ⟨by decide, by decide, rfl⟩ trivial ?_
      refine tf_cV hx ftX6_earlyPlace (nx := 33) (As := [.int (nI u)]) (rest := []) (st2 := [.int (nI (f (184 + u)))]) (v_at hW (show u < f 365 by omega)) rfl lX6_46 (by first | assumption | rfl | decide) rfl ⟨rfl, by decide, by decide, by decide, rfl, rfl⟩ ?_
      refine tf_go hx ftX6_earlyPlace 4 [] 37 [some (.ref o), some (.ref q), some (.int (nI u)), none] [.int ((nI u) + 2), .ref o, .int (nI (f (184 + u)))] S rfl ⟨by decide, by decide, rfl⟩ trivial ?_
      rw [show ((nI u) + 2) = nI (u + 2) from (tf_add (a := u) (b := 2) rfl (rfl : (2 : Int32) = nI 2))]
      by_cases e3 : u + 2 < f 364
      · refine tf_cV hx ftX6_earlyPlace (nx := 40) (As := [.int (nI (u + 2))]) (rest := [.int (nI (f (184 + u)))]) (st2 := [.int (nI (f (144 + (u + 2)))), .int (nI (f (184 + u)))]) (v_at hM (show u + 2 < f 364 by omega)) rfl lX6_46 (by first | assumption | rfl | decide) rfl ⟨rfl, by decide, by decide, by decide, rfl, rfl⟩ ?_
        by_cases e4 : f (144 + (u + 2)) = f (184 + u)
        · refine tf_go hx ftX6_earlyPlace 1 [false] 43 [some (.ref o), some (.ref q), some (.int (nI u)), none] [] S rfl ⟨by decide, by decide, rfl⟩ ⟨trivial, (tf_neF (a := (f (184 + u))) (b := (f (144 + (u + 2)))) rfl rfl (by have := hb (184 + u); have := hb (144 + (u + 2)); omega))⟩ ?_
          refine tf_go hx ftX6_earlyPlace 4 [] 50 [some (.ref o), some (.ref q), some (.int (nI u)), some (.int 1)] [.int 1] S rfl ⟨by decide, by decide, rfl⟩ trivial ?_
          refine tf_go hx ftX6_earlyPlace 3 [false] 59 [some (.ref o), some (.ref q), some (.int (nI u)), some (.int 1)] [.int (nI u)] S rfl ⟨by decide, by decide, rfl⟩ ⟨trivial, (by decide)⟩ ?_
          exact tf_ret ftX6_earlyPlace hR rfl ⟨by decide, by decide⟩ rfl rfl (by rw [tf_ea_eq, hu, if_pos (⟨s0, Or.inr ⟨e3, e4⟩⟩), tf_on_y (by omega)]; rfl)
        · refine tf_go hx ftX6_earlyPlace 1 [true] 47 [some (.ref o), some (.ref q), some (.int (nI u)), none] [] S rfl ⟨by decide, by decide, rfl⟩ ⟨trivial, (tf_eqF (a := (f (184 + u))) (b := (f (144 + (u + 2)))) rfl rfl (by have := hb (184 + u); have := hb (144 + (u + 2)); omega) (by have := hb (184 + u); have := hb (144 + (u + 2)); omega) (by have := hb (184 + u); have := hb (144 + (u + 2)); omega))⟩ ?_
          refine tf_go hx ftX6_earlyPlace 3 [] 50 [some (.ref o), some (.ref q), some (.int (nI u)), some (.int 0)] [.int 0] S rfl ⟨by decide, by decide, rfl⟩ trivial ?_
          refine tf_go hx ftX6_earlyPlace 2 [true] 59 [some (.ref o), some (.ref q), some (.int (nI u)), some (.int 0)] [.int (-9)] S rfl ⟨by decide, by decide, rfl⟩ ⟨trivial, rfl⟩ ?_
          exact tf_ret ftX6_earlyPlace hR rfl ⟨by decide, by decide⟩ rfl rfl (by rw [tf_on_n (by rw [tf_ea_eq, hu, if_neg (fun h => by rcases h.2 with h | h; exact e1 h.1; exact e4 h.2)]; decide)]; rfl)
      · refine tf_cV hx ftX6_earlyPlace (nx := 40) (As := [.int (nI (u + 2))]) (rest := [.int (nI (f (184 + u)))]) (st2 := [.int (-9), .int (nI (f (184 + u)))]) (v_outn hM (show f 364 ≤ u + 2 by omega) (by omega)) rfl lX6_46 (by first | assumption | rfl | decide) rfl ⟨rfl, by decide, by decide, by decide, rfl, rfl⟩ ?_
        refine tf_go hx ftX6_earlyPlace 1 [true] 47 [some (.ref o), some (.ref q), some (.int (nI u)), none] [] S rfl ⟨by decide, by decide, rfl⟩ ⟨trivial, (by have := hb (184 + u); exact fun q => absurd q (by rw [show (-9 : Int32) = -9 from rfl]; exact tf_n9 (by omega)))⟩ ?_
        refine tf_go hx ftX6_earlyPlace 3 [] 50 [some (.ref o), some (.ref q), some (.int (nI u)), some (.int 0)] [.int 0] S rfl ⟨by decide, by decide, rfl⟩ trivial ?_
        refine tf_go hx ftX6_earlyPlace 2 [true] 59 [some (.ref o), some (.ref q), some (.int (nI u)), some (.int 0)] [.int (-9)] S rfl ⟨by decide, by decide, rfl⟩ ⟨trivial, rfl⟩ ?_
        exact tf_ret ftX6_earlyPlace hR rfl ⟨by decide, by decide⟩ rfl rfl (by rw [tf_on_n (by rw [tf_ea_eq, hu, if_neg (fun h => by rcases h.2 with h | h; exact e1 h.1; exact e3 h.1)]; decide)]; rfl)
  · rw [tf_on_n s0]
    refine tf_go hx ftX6_earlyPlace 2 [] 7 [some (.ref o), some (.ref q), some (.int (-9)), none] [.int (-9)] S rfl ⟨by decide, by decide, rfl⟩ trivial ?_
    refine tf_go hx ftX6_earlyPlace 2 [false] 12 [some (.ref o), some (.ref q), some (.int (-9)), none] [.int (-9)] S rfl ⟨by decide, by decide, rfl⟩ ⟨trivial, (by decide)⟩ ?_
    exact tf_ret ftX6_earlyPlace hR rfl ⟨by decide, by decide⟩ rfl rfl (by rw [tf_on_n (by rw [tf_ea_eq, hu, if_neg (fun h => s0 h.1)]; decide)]; rfl)

set_option maxHeartbeats 1000000 in
theorem l_lost {G : tf_G} {S : tf_Sg} {o q : Nat} {f : Nat → Nat} (hM : tf_sV G S o 40 (f 364) (fun j => nI (f (144 + j)))) (hW : tf_sV G S q 40 (f 365) (fun j => nI (f (184 + j)))) (hb : ∀ k, f k < 10000) : tf_Fn mX6_lostPlace 3 0 0 G S [.ref o, .ref q] G S (some (.int (tf_on 41 (tf_lo f)))) := by
  have m1 := hM.1.1
  have w1 := hW.1.1
  have m40 := hM.2.2.1
  have w40 := hW.2.2.1
  have ule := tf_fU_le f
  refine tf_Fn_of (own := RX6) false ⟨by decide, rfl, by decide⟩ (Nat.le_of_ble_eq_true rfl) trivial (fun x hx hR => ?_)
  show tf_K x 0 0 G S 0 [some (.ref o), some (.ref q), none, none, none] []
  refine tf_go hx ftX6_lostPlace 2 [] 2 [some (.ref o), some (.ref q), none, none, none] [.ref q, .ref o] S rfl ⟨by decide, by decide, rfl⟩ trivial ?_
  refine tf_cS hx ftX6_lostPlace (nx := 5) (As := [.ref o, .ref q]) (rest := []) (st2 := [.int (nI (tf_fU f))]) (l_first hM hW hb) rfl lX6_50 rfl ⟨rfl, by decide, by decide, by decide, rfl, rfl⟩ ?_
  generalize hu : tf_fU f = u at *
  refine tf_go hx ftX6_lostPlace 1 [] 6 [some (.ref o), some (.ref q), some (.int (nI u)), none, none] [] S rfl ⟨by decide, by decide, rfl⟩ trivial ?_
  have dok := tf_dw_ok f u u
  refine tf_go hx ftX6_lostPlace 2 [] 8 [some (.ref o), some (.ref q), some (.int (nI u)), none, none] [.ref o, .int (nI u)] S rfl ⟨by decide, by decide, rfl⟩ trivial ?_
  refine tf_cV hx ftX6_lostPlace (nx := 11) (As := []) (rest := [.int (nI u)]) (st2 := [.int (nI (f 364)), .int (nI u)]) (v_size hM) rfl lX6_34 (by first | assumption | rfl | decide) rfl ⟨rfl, by decide, by decide, by decide, rfl, rfl⟩ ?_
  by_cases e1 : u < f 364
  · refine tf_go hx ftX6_lostPlace 1 [false] 14 [some (.ref o), some (.ref q), some (.int (nI u)), none, none] [] S rfl ⟨by decide, by decide, rfl⟩ ⟨trivial, (tf_leF (a := (f 364)) (b := u) rfl rfl (by have := hb 364; omega) (by have := hb 364; omega) (by have := hb 364; omega))⟩ ?_
    refine tf_go hx ftX6_lostPlace 4 [] 18 [some (.ref o), some (.ref q), some (.int (nI u)), none, none] [.int ((nI u) + 1), .ref o] S rfl ⟨by decide, by decide, rfl⟩ trivial ?_
    rw [show ((nI u) + 1) = nI (u + 1) from (tf_add (a := u) (b := 1) rfl (rfl : (1 : Int32) = nI 1))]
    refine tf_go hx ftX6_lostPlace 2 [] 20 [some (.ref o), some (.ref q), some (.int (nI u)), none, none] [.int (nI u), .ref q, .int (nI (u + 1)), .ref o] S rfl ⟨by decide, by decide, rfl⟩ trivial ?_
    refine tf_cS hx ftX6_lostPlace (nx := 23) (As := [.ref o, .int (nI (u + 1)), .ref q, .int (nI u)]) (rest := []) (st2 := [.int (nI (if tf_rs f (u + 1) (u) = true then 1 else 0))]) (l_rest (u + 1) (u) hM hW hb (by omega) (by omega)) rfl lX6_53 rfl ⟨rfl, by decide, by decide, by decide, rfl, rfl⟩ ?_
    by_cases e2 : tf_rs f (u + 1) (u) = true
    · rw [if_pos e2]
      have lo : tf_lo f = tf_dw f u u := by rw [tf_lo_eq, hu, if_pos ⟨e1, e2⟩]
      rw [lo, tf_on_y (show tf_dw f u u < 41 by omega)] at hR
      refine tf_go hx ftX6_lostPlace 1 [true] 29 [some (.ref o), some (.ref q), some (.int (nI u)), none, none] [] S rfl ⟨by decide, by decide, rfl⟩ ⟨trivial, (by decide)⟩ ?_
      refine tf_go hx ftX6_lostPlace 6 [] 36 [some (.ref o), some (.ref q), some (.int (nI u)), some (.int (nI u)), some (.int ((nI u) - 1))] [] S rfl ⟨by decide, by decide, rfl⟩ trivial ?_
      rw [show nI u - 1 = nI u + (-1) from Int32.sub_eq_add_neg _ _]
      have loop : ∀ (m k : Nat), k = m → (tf_dw f u k = tf_dw f u u) → (k ≤ u) → tf_K x 0 0 G S 36 [some (.ref o), some (.ref q), some (.int (nI u)), some (.int (nI k)), some (.int (nI k + (-1)))] [] := by
        intro m
        induction m with
        | zero =>
          intro k hk he hku
          subst hk
          refine tf_go hx ftX6_lostPlace 1 [] 38 [some (.ref o), some (.ref q), some (.int (nI u)), some (.int (nI 0)), some (.int (nI 0 + (-1)))] [.int (nI 0 + (-1))] S rfl ⟨by decide, by decide, rfl⟩ trivial ?_
          refine tf_go hx ftX6_lostPlace 2 [true] 65 [some (.ref o), some (.ref q), some (.int (nI u)), some (.int (nI 0)), some (.int (nI 0 + (-1)))] [.int (nI 0)] S rfl ⟨by decide, by decide, rfl⟩ ⟨trivial, (by decide)⟩ ?_
          exact tf_ret ftX6_lostPlace hR rfl ⟨by decide, by decide⟩ rfl rfl (by rw [← he]; rfl)
        | succ m ih =>
          intro k hk he hku
          subst hk
          rw [tf_dw_s] at he
          have e0 : nI (m + 1) + (-1) = nI m := by rw [← Int32.sub_eq_add_neg (nI (m + 1)) 1]; exact pk_sub (a := m + 1) (b := 1) (by omega)
          rw [e0]
          refine tf_go hx ftX6_lostPlace 1 [] 38 [some (.ref o), some (.ref q), some (.int (nI u)), some (.int (nI (m + 1))), some (.int (nI m))] [.int (nI m)] S rfl ⟨by decide, by decide, rfl⟩ trivial ?_
          refine tf_go hx ftX6_lostPlace 1 [false] 41 [some (.ref o), some (.ref q), some (.int (nI u)), some (.int (nI (m + 1))), some (.int (nI m))] [] S rfl ⟨by decide, by decide, rfl⟩ ⟨trivial, (tf_ltF (a := m) (b := 0) rfl (rfl : (0 : Int32) = nI 0) (by omega) (by omega) (by omega))⟩ ?_
          refine tf_go hx ftX6_lostPlace 2 [] 44 [some (.ref o), some (.ref q), some (.int (nI u)), some (.int (nI (m + 1))), some (.int (nI m))] [.int (nI m), .ref o] S rfl ⟨by decide, by decide, rfl⟩ trivial ?_
          refine tf_cV hx ftX6_lostPlace (nx := 47) (As := [.int (nI m)]) (rest := []) (st2 := [.int (nI (f (144 + m)))]) (v_at hM (show m < f 364 by omega)) rfl lX6_46 (by first | assumption | rfl | decide) rfl ⟨rfl, by decide, by decide, by decide, rfl, rfl⟩ ?_
          refine tf_go hx ftX6_lostPlace 2 [] 49 [some (.ref o), some (.ref q), some (.int (nI u)), some (.int (nI (m + 1))), some (.int (nI m))] [.int (nI u), .ref o, .int (nI (f (144 + m)))] S rfl ⟨by decide, by decide, rfl⟩ trivial ?_
          refine tf_cV hx ftX6_lostPlace (nx := 52) (As := [.int (nI u)]) (rest := [.int (nI (f (144 + m)))]) (st2 := [.int (nI (f (144 + u))), .int (nI (f (144 + m)))]) (v_at hM (show u < f 364 by omega)) rfl lX6_46 (by first | assumption | rfl | decide) rfl ⟨rfl, by decide, by decide, by decide, rfl, rfl⟩ ?_
          by_cases e3 : f (144 + m) = f (144 + u)
          · rw [if_pos e3] at he
            refine tf_go hx ftX6_lostPlace 1 [false] 55 [some (.ref o), some (.ref q), some (.int (nI u)), some (.int (nI (m + 1))), some (.int (nI m))] [] S rfl ⟨by decide, by decide, rfl⟩ ⟨trivial, (tf_neF (a := (f (144 + m))) (b := (f (144 + u))) rfl rfl (by have := hb (144 + m); have := hb (144 + u); omega))⟩ ?_
            refine tf_go hx ftX6_lostPlace 4 [] 36 [some (.ref o), some (.ref q), some (.int (nI u)), some (.int (nI m)), some (.int ((nI m) + (-1)))] [] S rfl ⟨by decide, by decide, rfl⟩ trivial ?_
            refine tf_fgt [some (.ref o), some (.ref q), some (.int (nI u)), some (.int (nI m)), some (.int (nI m + (-1)))] (by simp [tf_lss]) ?_
            exact ih m rfl he (by omega)
          · rw [if_neg e3] at he
            refine tf_go hx ftX6_lostPlace 2 [true] 65 [some (.ref o), some (.ref q), some (.int (nI u)), some (.int (nI (m + 1))), some (.int (nI m))] [.int (nI (m + 1))] S rfl ⟨by decide, by decide, rfl⟩ ⟨trivial, (tf_eqF (a := (f (144 + m))) (b := (f (144 + u))) rfl rfl (by have := hb (144 + m); have := hb (144 + u); omega) (by have := hb (144 + m); have := hb (144 + u); omega) (by have := hb (144 + m); have := hb (144 + u); omega))⟩ ?_
            exact tf_ret ftX6_lostPlace hR rfl ⟨by decide, by decide⟩ rfl rfl (by rw [← he]; rfl)
      exact loop u u rfl rfl (Nat.le_refl _)
    · rw [if_neg e2]
      refine tf_go hx ftX6_lostPlace 2 [false] 28 [some (.ref o), some (.ref q), some (.int (nI u)), none, none] [.int (-9)] S rfl ⟨by decide, by decide, rfl⟩ ⟨trivial, (by decide)⟩ ?_
      exact tf_ret ftX6_lostPlace hR rfl ⟨by decide, by decide⟩ rfl rfl (by rw [tf_on_n (by rw [tf_lo_eq, hu, if_neg (fun h => e2 h.2)]; decide)]; rfl)
  · refine tf_go hx ftX6_lostPlace 2 [true] 28 [some (.ref o), some (.ref q), some (.int (nI u)), none, none] [.int (-9)] S rfl ⟨by decide, by decide, rfl⟩ ⟨trivial, (tf_leT (a := (f 364)) (b := u) rfl rfl (by have := hb 364; omega) (by have := hb 364; omega) (by have := hb 364; omega))⟩ ?_
    exact tf_ret ftX6_lostPlace hR rfl ⟨by decide, by decide⟩ rfl rfl (by rw [tf_on_n (by rw [tf_lo_eq, hu, if_neg (fun h => e1 h.1)]; decide)]; rfl)

set_option maxHeartbeats 1000000 in
theorem l_caught {G : tf_G} {S : tf_Sg} {o q : Nat} {f : Nat → Nat} (hM : tf_sV G S o 40 (f 364) (fun j => nI (f (144 + j)))) (hW : tf_sV G S q 40 (f 365) (fun j => nI (f (184 + j)))) (hb : ∀ k, f k < 10000) : tf_Fn mX6_caughtPlace 3 0 0 G S [.ref o, .ref q] G S (some (.int (tf_on 41 (tf_ca f)))) := by
  have m1 := hM.1.1
  have w1 := hW.1.1
  have m40 := hM.2.2.1
  have w40 := hW.2.2.1
  have ule := tf_fU_le f
  refine tf_Fn_of (own := RX6) false ⟨by decide, rfl, by decide⟩ (Nat.le_of_ble_eq_true rfl) trivial (fun x hx hR => ?_)
  show tf_K x 0 0 G S 0 [some (.ref o), some (.ref q), none, none] []
  refine tf_go hx ftX6_caughtPlace 2 [] 2 [some (.ref o), some (.ref q), none, none] [.ref q, .ref o] S rfl ⟨by decide, by decide, rfl⟩ trivial ?_
  refine tf_cS hx ftX6_caughtPlace (nx := 5) (As := [.ref o, .ref q]) (rest := []) (st2 := [.int (nI (tf_fU f))]) (l_first hM hW hb) rfl lX6_50 rfl ⟨rfl, by decide, by decide, by decide, rfl, rfl⟩ ?_
  generalize hu : tf_fU f = u at *
  refine tf_go hx ftX6_caughtPlace 1 [] 6 [some (.ref o), some (.ref q), some (.int (nI u)), none] [] S rfl ⟨by decide, by decide, rfl⟩ trivial ?_
  refine tf_go hx ftX6_caughtPlace 2 [] 8 [some (.ref o), some (.ref q), some (.int (nI u)), none] [.ref o, .int (nI u)] S rfl ⟨by decide, by decide, rfl⟩ trivial ?_
  refine tf_cV hx ftX6_caughtPlace (nx := 11) (As := []) (rest := [.int (nI u)]) (st2 := [.int (nI (f 364)), .int (nI u)]) (v_size hM) rfl lX6_34 (by first | assumption | rfl | decide) rfl ⟨rfl, by decide, by decide, by decide, rfl, rfl⟩ ?_
  by_cases e1 : u < f 364
  · refine tf_go hx ftX6_caughtPlace 1 [false] 14 [some (.ref o), some (.ref q), some (.int (nI u)), none] [] S rfl ⟨by decide, by decide, rfl⟩ ⟨trivial, (tf_leF (a := (f 364)) (b := u) rfl rfl (by have := hb 364; omega) (by have := hb 364; omega) (by have := hb 364; omega))⟩ ?_
    refine tf_go hx ftX6_caughtPlace 4 [] 18 [some (.ref o), some (.ref q), some (.int (nI u)), none] [.ref q, .int ((nI u) + 1)] S rfl ⟨by decide, by decide, rfl⟩ trivial ?_
    rw [show ((nI u) + 1) = nI (u + 1) from (tf_add (a := u) (b := 1) rfl (rfl : (1 : Int32) = nI 1))]
    refine tf_cV hx ftX6_caughtPlace (nx := 21) (As := []) (rest := [.int (nI (u + 1))]) (st2 := [.int (nI (f 365)), .int (nI (u + 1))]) (v_size hW) rfl lX6_34 (by first | assumption | rfl | decide) rfl ⟨rfl, by decide, by decide, by decide, rfl, rfl⟩ ?_
    by_cases e2 : u + 1 < f 365
    · refine tf_go hx ftX6_caughtPlace 1 [false] 24 [some (.ref o), some (.ref q), some (.int (nI u)), none] [] S rfl ⟨by decide, by decide, rfl⟩ ⟨trivial, (tf_leF (a := (f 365)) (b := (u + 1)) rfl rfl (by have := hb 365; omega) (by have := hb 365; omega) (by have := hb 365; omega))⟩ ?_
      refine tf_go hx ftX6_caughtPlace 2 [] 26 [some (.ref o), some (.ref q), some (.int (nI u)), none] [.int (nI u), .ref q] S rfl ⟨by decide, by decide, rfl⟩ trivial ?_
      refine tf_cV hx ftX6_caughtPlace (nx := 29) (As := [.int (nI u)]) (rest := []) (st2 := [.int (nI (f (184 + u)))]) (v_at hW (show u < f 365 by omega)) rfl lX6_46 (by first | assumption | rfl | decide) rfl ⟨rfl, by decide, by decide, by decide, rfl, rfl⟩ ?_
      refine tf_go hx ftX6_caughtPlace 1 [] 31 [some (.ref o), some (.ref q), some (.int (nI u)), none] [.int 26, .int (nI (f (184 + u)))] S rfl ⟨by decide, by decide, rfl⟩ trivial ?_
      by_cases e3 : f (184 + u) = 26
      · refine tf_go hx ftX6_caughtPlace 1 [true] 62 [some (.ref o), some (.ref q), some (.int (nI u)), none] [] S rfl ⟨by decide, by decide, rfl⟩ ⟨trivial, (tf_eqT (a := (f (184 + u))) (b := 26) rfl (rfl : (26 : Int32) = nI 26) (by have := hb (184 + u); omega))⟩ ?_
        refine tf_go hx ftX6_caughtPlace 2 [] 64 [some (.ref o), some (.ref q), some (.int (nI u)), some (.int 0)] [] S rfl ⟨by decide, by decide, rfl⟩ trivial ?_
        refine tf_go hx ftX6_caughtPlace 3 [true] 74 [some (.ref o), some (.ref q), some (.int (nI u)), some (.int 0)] [.int (-9)] S rfl ⟨by decide, by decide, rfl⟩ ⟨trivial, rfl⟩ ?_
        exact tf_ret ftX6_caughtPlace hR rfl ⟨by decide, by decide⟩ rfl rfl (by rw [tf_on_n (by rw [tf_ca_eq, hu, if_neg (fun h => h.2.2.1 e3)]; decide)]; rfl)
      · refine tf_go hx ftX6_caughtPlace 1 [false] 34 [some (.ref o), some (.ref q), some (.int (nI u)), none] [] S rfl ⟨by decide, by decide, rfl⟩ ⟨trivial, (tf_eqF (a := (f (184 + u))) (b := 26) rfl (rfl : (26 : Int32) = nI 26) (by have := hb (184 + u); omega) (by have := hb (184 + u); omega) (by have := hb (184 + u); omega))⟩ ?_
        refine tf_go hx ftX6_caughtPlace 4 [] 38 [some (.ref o), some (.ref q), some (.int (nI u)), none] [.int ((nI u) + 1), .ref q] S rfl ⟨by decide, by decide, rfl⟩ trivial ?_
        rw [show ((nI u) + 1) = nI (u + 1) from (tf_add (a := u) (b := 1) rfl (rfl : (1 : Int32) = nI 1))]
        refine tf_cV hx ftX6_caughtPlace (nx := 41) (As := [.int (nI (u + 1))]) (rest := []) (st2 := [.int (nI (f (184 + (u + 1))))]) (v_at hW (show u + 1 < f 365 by omega)) rfl lX6_46 (by first | assumption | rfl | decide) rfl ⟨rfl, by decide, by decide, by decide, rfl, rfl⟩ ?_
        refine tf_go hx ftX6_caughtPlace 1 [] 43 [some (.ref o), some (.ref q), some (.int (nI u)), none] [.int 26, .int (nI (f (184 + (u + 1))))] S rfl ⟨by decide, by decide, rfl⟩ trivial ?_
        by_cases e4 : f (184 + (u + 1)) = 26
        · refine tf_go hx ftX6_caughtPlace 1 [false] 46 [some (.ref o), some (.ref q), some (.int (nI u)), none] [] S rfl ⟨by decide, by decide, rfl⟩ ⟨trivial, (tf_neF (a := (f (184 + (u + 1)))) (b := 26) rfl (rfl : (26 : Int32) = nI 26) (by have := hb (184 + (u + 1)); omega))⟩ ?_
          refine tf_go hx ftX6_caughtPlace 2 [] 48 [some (.ref o), some (.ref q), some (.int (nI u)), none] [.int (nI u), .ref o] S rfl ⟨by decide, by decide, rfl⟩ trivial ?_
          refine tf_go hx ftX6_caughtPlace 4 [] 52 [some (.ref o), some (.ref q), some (.int (nI u)), none] [.int ((nI u) + 2), .ref q, .int (nI u), .ref o] S rfl ⟨by decide, by decide, rfl⟩ trivial ?_
          rw [show ((nI u) + 2) = nI (u + 2) from (tf_add (a := u) (b := 2) rfl (rfl : (2 : Int32) = nI 2))]
          refine tf_cS hx ftX6_caughtPlace (nx := 55) (As := [.ref o, .int (nI u), .ref q, .int (nI (u + 2))]) (rest := []) (st2 := [.int (nI (if tf_rs f (u) (u + 2) = true then 1 else 0))]) (l_rest (u) (u + 2) hM hW hb (by omega) (by omega)) rfl lX6_53 rfl ⟨rfl, by decide, by decide, by decide, rfl, rfl⟩ ?_
          by_cases e5 : tf_rs f (u) (u + 2) = true
          · rw [if_pos e5]
            refine tf_go hx ftX6_caughtPlace 1 [false] 58 [some (.ref o), some (.ref q), some (.int (nI u)), none] [] S rfl ⟨by decide, by decide, rfl⟩ ⟨trivial, (by decide)⟩ ?_
            refine tf_go hx ftX6_caughtPlace 3 [] 64 [some (.ref o), some (.ref q), some (.int (nI u)), some (.int 1)] [] S rfl ⟨by decide, by decide, rfl⟩ trivial ?_
            refine tf_go hx ftX6_caughtPlace 4 [false] 74 [some (.ref o), some (.ref q), some (.int (nI u)), some (.int 1)] [.int (nI u)] S rfl ⟨by decide, by decide, rfl⟩ ⟨trivial, (by decide)⟩ ?_
            exact tf_ret ftX6_caughtPlace hR rfl ⟨by decide, by decide⟩ rfl rfl (by rw [tf_ca_eq, hu, if_pos (⟨e1, e2, e3, e4, e5⟩), tf_on_y (by omega)]; rfl)
          · rw [if_neg e5]
            refine tf_go hx ftX6_caughtPlace 1 [true] 62 [some (.ref o), some (.ref q), some (.int (nI u)), none] [] S rfl ⟨by decide, by decide, rfl⟩ ⟨trivial, rfl⟩ ?_
            refine tf_go hx ftX6_caughtPlace 2 [] 64 [some (.ref o), some (.ref q), some (.int (nI u)), some (.int 0)] [] S rfl ⟨by decide, by decide, rfl⟩ trivial ?_
            refine tf_go hx ftX6_caughtPlace 3 [true] 74 [some (.ref o), some (.ref q), some (.int (nI u)), some (.int 0)] [.int (-9)] S rfl ⟨by decide, by decide, rfl⟩ ⟨trivial, rfl⟩ ?_
            exact tf_ret ftX6_caughtPlace hR rfl ⟨by decide, by decide⟩ rfl rfl (by rw [tf_on_n (by rw [tf_ca_eq, hu, if_neg (fun h => e5 h.2.2.2.2)]; decide)]; rfl)
        · refine tf_go hx ftX6_caughtPlace 1 [true] 62 [some (.ref o), some (.ref q), some (.int (nI u)), none] [] S rfl ⟨by decide, by decide, rfl⟩ ⟨trivial, (tf_eqF (a := (f (184 + (u + 1)))) (b := 26) rfl (rfl : (26 : Int32) = nI 26) (by have := hb (184 + (u + 1)); omega) (by have := hb (184 + (u + 1)); omega) (by have := hb (184 + (u + 1)); omega))⟩ ?_
          refine tf_go hx ftX6_caughtPlace 2 [] 64 [some (.ref o), some (.ref q), some (.int (nI u)), some (.int 0)] [] S rfl ⟨by decide, by decide, rfl⟩ trivial ?_
          refine tf_go hx ftX6_caughtPlace 3 [true] 74 [some (.ref o), some (.ref q), some (.int (nI u)), some (.int 0)] [.int (-9)] S rfl ⟨by decide, by decide, rfl⟩ ⟨trivial, rfl⟩ ?_
          exact tf_ret ftX6_caughtPlace hR rfl ⟨by decide, by decide⟩ rfl rfl (by rw [tf_on_n (by rw [tf_ca_eq, hu, if_neg (fun h => e4 h.2.2.2.1)]; decide)]; rfl)
    · refine tf_go hx ftX6_caughtPlace 1 [true] 62 [some (.ref o), some (.ref q), some (.int (nI u)), none] [] S rfl ⟨by decide, by decide, rfl⟩ ⟨trivial, (tf_leT (a := (f 365)) (b := (u + 1)) rfl rfl (by have := hb 365; omega) (by have := hb 365; omega) (by have := hb 365; omega))⟩ ?_
      refine tf_go hx ftX6_caughtPlace 2 [] 64 [some (.ref o), some (.ref q), some (.int (nI u)), some (.int 0)] [] S rfl ⟨by decide, by decide, rfl⟩ trivial ?_
      refine tf_go hx ftX6_caughtPlace 3 [true] 74 [some (.ref o), some (.ref q), some (.int (nI u)), some (.int 0)] [.int (-9)] S rfl ⟨by decide, by decide, rfl⟩ ⟨trivial, rfl⟩ ?_
      exact tf_ret ftX6_caughtPlace hR rfl ⟨by decide, by decide⟩ rfl rfl (by rw [tf_on_n (by rw [tf_ca_eq, hu, if_neg (fun h => e2 h.2.1)]; decide)]; rfl)
  · refine tf_go hx ftX6_caughtPlace 1 [true] 62 [some (.ref o), some (.ref q), some (.int (nI u)), none] [] S rfl ⟨by decide, by decide, rfl⟩ ⟨trivial, (tf_leT (a := (f 364)) (b := u) rfl rfl (by have := hb 364; omega) (by have := hb 364; omega) (by have := hb 364; omega))⟩ ?_
    refine tf_go hx ftX6_caughtPlace 2 [] 64 [some (.ref o), some (.ref q), some (.int (nI u)), some (.int 0)] [] S rfl ⟨by decide, by decide, rfl⟩ trivial ?_
    refine tf_go hx ftX6_caughtPlace 3 [true] 74 [some (.ref o), some (.ref q), some (.int (nI u)), some (.int 0)] [.int (-9)] S rfl ⟨by decide, by decide, rfl⟩ ⟨trivial, rfl⟩ ?_
    exact tf_ret ftX6_caughtPlace hR rfl ⟨by decide, by decide⟩ rfl rfl (by rw [tf_on_n (by rw [tf_ca_eq, hu, if_neg (fun h => e1 h.1)]; decide)]; rfl)

set_option maxHeartbeats 1000000 in
theorem l_place {G : tf_G} {S : tf_Sg} {o q : Nat} {f : Nat → Nat} {r : Nat} (b k : Nat) (hM : tf_sV G S o 40 (f 364) (fun j => nI (f (144 + j)))) (hW : tf_sV G S q 40 (f 365) (fun j => nI (f (184 + j)))) (hb : ∀ k, f k < 10000) (hB : tf_bd G r) (hk : ∀ l, l < 26 → S (tf_rf G r 1) l = tf_on 30 (tf_ke f b l)) (kl : ∀ k, k < 30 → f (30 * b + k) ≤ 26) (g6 : ∀ i, i < f 364 → f (144 + i) < 26) (g7 : ∀ i, i < f 365 → f (184 + i) ≤ 26) (hk8 : k < 8) : tf_Fn mX6_placeOf 5 0 0 G S [.int (nI k), .ref o, .ref q, .ref r] G S (some (.int (tf_on 41 (tf_wo f b k)))) := by
  have m1 := hM.1.1
  have w1 := hW.1.1
  have m40 := hM.2.2.1
  have w40 := hW.2.2.1
  have ule := tf_fU_le f
  refine tf_Fn_of (own := RX6) false ⟨by decide, rfl, by decide⟩ (Nat.le_of_ble_eq_true rfl) trivial (fun x hx hR => ?_)
  show tf_K x 0 0 G S 0 [some (.int (nI k)), some (.ref o), some (.ref q), some (.ref r)] []
  by_cases a0 : k = 0
  · subst a0
    refine tf_go hx ftX6_placeOf 1 [] 1 [some (.int (nI 0)), some (.ref o), some (.ref q), some (.ref r)] [.int (nI 0)] S rfl ⟨by decide, by decide, rfl⟩ trivial ?_
    refine tf_swI hx ftX6_placeOf 48 rfl ⟨by decide, by decide, rfl, by decide⟩ ?_
    refine tf_go hx ftX6_placeOf 2 [] 50 [some (.int (nI 0)), some (.ref o), some (.ref q), some (.ref r)] [.ref q, .ref o] S rfl ⟨by decide, by decide, rfl⟩ trivial ?_
    refine tf_cS hx ftX6_placeOf (nx := 53) (As := [.ref o, .ref q]) (rest := []) (st2 := [.int (tf_on 41 (tf_sl f))]) (l_slip hM hW hb) rfl lX6_9 rfl ⟨rfl, by decide, by decide, by decide, rfl, rfl⟩ ?_
    exact tf_ret ftX6_placeOf hR rfl ⟨by decide, by decide⟩ rfl rfl rfl
  · by_cases a1 : k = 1
    · subst a1
      refine tf_go hx ftX6_placeOf 1 [] 1 [some (.int (nI 1)), some (.ref o), some (.ref q), some (.ref r)] [.int (nI 1)] S rfl ⟨by decide, by decide, rfl⟩ trivial ?_
      refine tf_swI hx ftX6_placeOf 54 rfl ⟨by decide, by decide, rfl, by decide⟩ ?_
      refine tf_go hx ftX6_placeOf 2 [] 56 [some (.int (nI 1)), some (.ref o), some (.ref q), some (.ref r)] [.ref q, .ref o] S rfl ⟨by decide, by decide, rfl⟩ trivial ?_
      refine tf_cS hx ftX6_placeOf (nx := 59) (As := [.ref o, .ref q]) (rest := []) (st2 := [.int (tf_on 41 (tf_sw f))]) (l_swap hM hW hb) rfl lX6_15 rfl ⟨rfl, by decide, by decide, by decide, rfl, rfl⟩ ?_
      exact tf_ret ftX6_placeOf hR rfl ⟨by decide, by decide⟩ rfl rfl rfl
    · by_cases a2 : k = 2
      · subst a2
        refine tf_go hx ftX6_placeOf 1 [] 1 [some (.int (nI 2)), some (.ref o), some (.ref q), some (.ref r)] [.int (nI 2)] S rfl ⟨by decide, by decide, rfl⟩ trivial ?_
        refine tf_swI hx ftX6_placeOf 60 rfl ⟨by decide, by decide, rfl, by decide⟩ ?_
        refine tf_go hx ftX6_placeOf 2 [] 62 [some (.int (nI 2)), some (.ref o), some (.ref q), some (.ref r)] [.ref q, .ref o] S rfl ⟨by decide, by decide, rfl⟩ trivial ?_
        refine tf_cS hx ftX6_placeOf (nx := 65) (As := [.ref o, .ref q]) (rest := []) (st2 := [.int (tf_on 41 (tf_do f))]) (l_double hM hW hb) rfl lX6_18 rfl ⟨rfl, by decide, by decide, by decide, rfl, rfl⟩ ?_
        exact tf_ret ftX6_placeOf hR rfl ⟨by decide, by decide⟩ rfl rfl rfl
      · by_cases a3 : k = 3
        · subst a3
          refine tf_go hx ftX6_placeOf 1 [] 1 [some (.int (nI 3)), some (.ref o), some (.ref q), some (.ref r)] [.int (nI 3)] S rfl ⟨by decide, by decide, rfl⟩ trivial ?_
          refine tf_swI hx ftX6_placeOf 66 rfl ⟨by decide, by decide, rfl, by decide⟩ ?_
          refine tf_go hx ftX6_placeOf 4 [] 70 [some (.int (nI 3)), some (.ref o), some (.ref q), some (.ref r)] [.ref r, .ref q, .ref o, .int (nI 3)] S rfl ⟨by decide, by decide, rfl⟩ trivial ?_
          refine tf_cS hx ftX6_placeOf (nx := 73) (As := [.int (nI 3), .ref o, .ref q, .ref r]) (rest := []) (st2 := [.int (tf_on 41 (tf_bk f b 1))]) (l_key (f := f) b 1 hM hW hb hB hk kl g6 g7) rfl lX6_21 rfl ⟨rfl, by decide, by decide, by decide, rfl, rfl⟩ ?_
          exact tf_ret ftX6_placeOf hR rfl ⟨by decide, by decide⟩ rfl rfl rfl
        · by_cases a4 : k = 4
          · subst a4
            refine tf_go hx ftX6_placeOf 1 [] 1 [some (.int (nI 4)), some (.ref o), some (.ref q), some (.ref r)] [.int (nI 4)] S rfl ⟨by decide, by decide, rfl⟩ trivial ?_
            refine tf_swI hx ftX6_placeOf 66 rfl ⟨by decide, by decide, rfl, by decide⟩ ?_
            refine tf_go hx ftX6_placeOf 4 [] 70 [some (.int (nI 4)), some (.ref o), some (.ref q), some (.ref r)] [.ref r, .ref q, .ref o, .int (nI 4)] S rfl ⟨by decide, by decide, rfl⟩ trivial ?_
            refine tf_cS hx ftX6_placeOf (nx := 73) (As := [.int (nI 4), .ref o, .ref q, .ref r]) (rest := []) (st2 := [.int (tf_on 41 (tf_bk f b 0))]) (l_key (f := f) b 0 hM hW hb hB hk kl g6 g7) rfl lX6_21 rfl ⟨rfl, by decide, by decide, by decide, rfl, rfl⟩ ?_
            exact tf_ret ftX6_placeOf hR rfl ⟨by decide, by decide⟩ rfl rfl rfl
          · by_cases a5 : k = 5
            · subst a5
              refine tf_go hx ftX6_placeOf 1 [] 1 [some (.int (nI 5)), some (.ref o), some (.ref q), some (.ref r)] [.int (nI 5)] S rfl ⟨by decide, by decide, rfl⟩ trivial ?_
              refine tf_swI hx ftX6_placeOf 74 rfl ⟨by decide, by decide, rfl, by decide⟩ ?_
              refine tf_go hx ftX6_placeOf 2 [] 76 [some (.int (nI 5)), some (.ref o), some (.ref q), some (.ref r)] [.ref q, .ref o] S rfl ⟨by decide, by decide, rfl⟩ trivial ?_
              refine tf_cS hx ftX6_placeOf (nx := 79) (As := [.ref o, .ref q]) (rest := []) (st2 := [.int (tf_on 41 (tf_ea f))]) (l_early hM hW hb g6) rfl lX6_25 rfl ⟨rfl, by decide, by decide, by decide, rfl, rfl⟩ ?_
              exact tf_ret ftX6_placeOf hR rfl ⟨by decide, by decide⟩ rfl rfl rfl
            · by_cases a6 : k = 6
              · subst a6
                refine tf_go hx ftX6_placeOf 1 [] 1 [some (.int (nI 6)), some (.ref o), some (.ref q), some (.ref r)] [.int (nI 6)] S rfl ⟨by decide, by decide, rfl⟩ trivial ?_
                refine tf_swI hx ftX6_placeOf 80 rfl ⟨by decide, by decide, rfl, by decide⟩ ?_
                refine tf_go hx ftX6_placeOf 2 [] 82 [some (.int (nI 6)), some (.ref o), some (.ref q), some (.ref r)] [.ref q, .ref o] S rfl ⟨by decide, by decide, rfl⟩ trivial ?_
                refine tf_cS hx ftX6_placeOf (nx := 85) (As := [.ref o, .ref q]) (rest := []) (st2 := [.int (tf_on 41 (tf_lo f))]) (l_lost hM hW hb) rfl lX6_28 rfl ⟨rfl, by decide, by decide, by decide, rfl, rfl⟩ ?_
                exact tf_ret ftX6_placeOf hR rfl ⟨by decide, by decide⟩ rfl rfl rfl
              · have a7 : k = 7 := by omega
                subst a7
                refine tf_go hx ftX6_placeOf 1 [] 1 [some (.int (nI 7)), some (.ref o), some (.ref q), some (.ref r)] [.int (nI 7)] S rfl ⟨by decide, by decide, rfl⟩ trivial ?_
                refine tf_swI hx ftX6_placeOf 86 rfl ⟨by decide, by decide, rfl, by decide⟩ ?_
                refine tf_go hx ftX6_placeOf 2 [] 88 [some (.int (nI 7)), some (.ref o), some (.ref q), some (.ref r)] [.ref q, .ref o] S rfl ⟨by decide, by decide, rfl⟩ trivial ?_
                refine tf_cS hx ftX6_placeOf (nx := 91) (As := [.ref o, .ref q]) (rest := []) (st2 := [.int (tf_on 41 (tf_ca f))]) (l_caught hM hW hb) rfl lX6_31 rfl ⟨rfl, by decide, by decide, by decide, rfl, rfl⟩ ?_
                exact tf_ret ftX6_placeOf hR rfl ⟨by decide, by decide⟩ rfl rfl rfl

