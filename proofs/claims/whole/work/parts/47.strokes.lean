def fX8 : tf_F := [(3, 102, 0), (14, 5, 0), (20, 5, 1), (62, 101, 2), (87, 101, 1)]
set_option maxRecDepth 100000 in
theorem okfX8 : tf_okF RX8 fX8 := by unfold tf_okF; decide +kernel

def tX8_layOut : tf_T := [(0, .aload_n 0, 1, 0, 0),
  (1, .getfield 14, 4, 0, 0),
  (4, .invokevirtual 24, 7, 0, 0),
  (7, .iconst 0, 8, 0, 0),
  (8, .istore_n 3, 9, 0, 0),
  (9, .iload_n 3, 10, 0, 0),
  (10, .bipush 30, 12, 0, 30),
  (12, .if_icmp .ge 16, 15, 28, 0),
  (15, .aload_n 0, 16, 0, 0),
  (16, .getfield 20, 19, 0, 0),
  (19, .iload_n 3, 20, 0, 0),
  (20, .iconst 0, 21, 0, 0),
  (21, .bastore, 22, 0, 0),
  (22, .iinc 3 1, 25, 0, 1),
  (25, .goto (-16), 28, 9, 0),
  (28, .iconst 0, 29, 0, 0),
  (29, .istore_n 3, 30, 0, 0),
  (30, .iload_n 3, 31, 0, 0),
  (31, .aload_n 1, 32, 0, 0),
  (32, .invokevirtual 27, 35, 0, 0),
  (35, .if_icmp .ge 45, 38, 80, 0),
  (38, .aload_n 2, 39, 0, 0),
  (39, .aload_n 1, 40, 0, 0),
  (40, .iload_n 3, 41, 0, 0),
  (41, .invokevirtual 31, 44, 0, 0),
  (44, .invokevirtual 35, 47, 0, 0),
  (47, .istore 4, 49, 0, 0),
  (49, .aload_n 0, 50, 0, 0),
  (50, .getfield 14, 53, 0, 0),
  (53, .iload 4, 55, 0, 0),
  (55, .invokevirtual 40, 58, 0, 0),
  (58, .iload 4, 60, 0, 0),
  (60, .invokestatic 43, 63, 0, 0),
  (63, .ifCond .ne 11, 66, 74, 0),
  (66, .aload_n 0, 67, 0, 0),
  (67, .getfield 20, 70, 0, 0),
  (70, .iload 4, 72, 0, 0),
  (72, .iconst 1, 73, 0, 1),
  (73, .bastore, 74, 0, 0),
  (74, .iinc 3 1, 77, 0, 1),
  (77, .goto (-47), 80, 30, 0),
  (80, .return_, 81, 0, 0)]
set_option maxRecDepth 100000 in
theorem okX8_layOut : tf_okT cX8_layOut tX8_layOut := by unfold tf_okT; decide +kernel
theorem ftX8_layOut : 1 ≤ 2 ∧ tf_okF RX8 fX8 ∧ tf_okT cX8_layOut tX8_layOut := ⟨by decide, okfX8, okX8_layOut⟩
def mX8_layOut : tf_M := (yX8_layOut, cX8_layOut, 5, none)

def tX8_uses : tf_T := [(0, .iload_n 1, 1, 0, 0),
  (1, .invokestatic 43, 4, 0, 0),
  (4, .ifCond .ne 16, 7, 20, 0),
  (7, .aload_n 0, 8, 0, 0),
  (8, .getfield 20, 11, 0, 0),
  (11, .iload_n 1, 12, 0, 0),
  (12, .baload, 13, 0, 0),
  (13, .ifCond .eq 7, 16, 20, 0),
  (16, .iconst 1, 17, 0, 1),
  (17, .goto 4, 20, 21, 0),
  (20, .iconst 0, 21, 0, 0),
  (21, .ireturn, 22, 0, 0)]
set_option maxRecDepth 100000 in
theorem okX8_uses : tf_okT cX8_uses tX8_uses := by unfold tf_okT; decide +kernel
theorem ftX8_uses : 1 ≤ 2 ∧ tf_okF RX8 fX8 ∧ tf_okT cX8_uses tX8_uses := ⟨by decide, okfX8, okX8_uses⟩
def mX8_uses : tf_M := (yX8_uses, cX8_uses, 2, (some .boolean))

def tX8_gapAt : tf_T := [(0, .aload_n 2, 1, 0, 0),
  (1, .aload_n 0, 2, 0, 0),
  (2, .getfield 14, 5, 0, 0),
  (5, .iload_n 1, 6, 0, 0),
  (6, .iconst 1, 7, 0, 1),
  (7, .isub, 8, 0, 0),
  (8, .invokevirtual 31, 11, 0, 0),
  (11, .aload_n 0, 12, 0, 0),
  (12, .getfield 14, 15, 0, 0),
  (15, .iload_n 1, 16, 0, 0),
  (16, .invokevirtual 31, 19, 0, 0),
  (19, .iconst 0, 20, 0, 0),
  (20, .invokevirtual 47, 23, 0, 0),
  (23, .ireturn, 24, 0, 0)]
set_option maxRecDepth 100000 in
theorem okX8_gapAt : tf_okT cX8_gapAt tX8_gapAt := by unfold tf_okT; decide +kernel
theorem ftX8_gapAt : 1 ≤ 5 ∧ tf_okF RX8 fX8 ∧ tf_okT cX8_gapAt tX8_gapAt := ⟨by decide, okfX8, okX8_gapAt⟩
def mX8_gapAt : tf_M := (yX8_gapAt, cX8_gapAt, 3, (some .int))

def tX8_timeBy : tf_T := [(0, .iconst 0, 1, 0, 0),
  (1, .istore 4, 3, 0, 0),
  (3, .iconst 0, 4, 0, 0),
  (4, .istore 5, 6, 0, 0),
  (6, .iload 5, 8, 0, 0),
  (8, .aload_n 0, 9, 0, 0),
  (9, .getfield 14, 12, 0, 0),
  (12, .invokevirtual 27, 15, 0, 0),
  (15, .if_icmp .ge 49, 18, 64, 0),
  (18, .iload 4, 20, 0, 0),
  (20, .aload_n 1, 21, 0, 0),
  (21, .aload_n 0, 22, 0, 0),
  (22, .getfield 14, 25, 0, 0),
  (25, .iload 5, 27, 0, 0),
  (27, .iconst 1, 28, 0, 1),
  (28, .isub, 29, 0, 0),
  (29, .invokevirtual 31, 32, 0, 0),
  (32, .aload_n 0, 33, 0, 0),
  (33, .getfield 14, 36, 0, 0),
  (36, .iload 5, 38, 0, 0),
  (38, .invokevirtual 31, 41, 0, 0),
  (41, .iload_n 3, 42, 0, 0),
  (42, .invokevirtual 47, 45, 0, 0),
  (45, .aload_n 2, 46, 0, 0),
  (46, .iload 5, 48, 0, 0),
  (48, .invokevirtual 53, 51, 0, 0),
  (51, .imul, 52, 0, 0),
  (52, .bipush 100, 54, 0, 100),
  (54, .idiv, 55, 0, 0),
  (55, .iadd, 56, 0, 0),
  (56, .istore 4, 58, 0, 0),
  (58, .iinc 5 1, 61, 0, 1),
  (61, .goto (-55), 64, 6, 0),
  (64, .iload 4, 66, 0, 0),
  (66, .ireturn, 67, 0, 0)]
set_option maxRecDepth 100000 in
theorem okX8_timeBy : tf_okT cX8_timeBy tX8_timeBy := by unfold tf_okT; decide +kernel
theorem ftX8_timeBy : 1 ≤ 5 ∧ tf_okF RX8 fX8 ∧ tf_okT cX8_timeBy tX8_timeBy := ⟨by decide, okfX8, okX8_timeBy⟩
def mX8_timeBy : tf_M := (yX8_timeBy, cX8_timeBy, 6, (some .int))

def tX8_timeExchanged : tf_T := [(0, .iconst 0, 1, 0, 0),
  (1, .istore 5, 3, 0, 0),
  (3, .bipush (-9), 5, 0, (-9)),
  (5, .istore 6, 7, 0, 0),
  (7, .iconst 0, 8, 0, 0),
  (8, .istore 7, 10, 0, 0),
  (10, .iload 7, 12, 0, 0),
  (12, .aload_n 0, 13, 0, 0),
  (13, .getfield 14, 16, 0, 0),
  (16, .invokevirtual 27, 19, 0, 0),
  (19, .if_icmp .ge 71, 22, 90, 0),
  (22, .aload_n 0, 23, 0, 0),
  (23, .getfield 14, 26, 0, 0),
  (26, .iload 7, 28, 0, 0),
  (28, .invokevirtual 31, 31, 0, 0),
  (31, .istore 8, 33, 0, 0),
  (33, .iload 8, 35, 0, 0),
  (35, .iload_n 3, 36, 0, 0),
  (36, .if_icmp .ne 10, 39, 46, 0),
  (39, .iload 4, 41, 0, 0),
  (41, .istore 8, 43, 0, 0),
  (43, .goto 13, 46, 56, 0),
  (46, .iload 8, 48, 0, 0),
  (48, .iload 4, 50, 0, 0),
  (50, .if_icmp .ne 6, 53, 56, 0),
  (53, .iload_n 3, 54, 0, 0),
  (54, .istore 8, 56, 0, 0),
  (56, .iload 5, 58, 0, 0),
  (58, .aload_n 1, 59, 0, 0),
  (59, .iload 6, 61, 0, 0),
  (61, .iload 8, 63, 0, 0),
  (63, .iconst 0, 64, 0, 0),
  (64, .invokevirtual 47, 67, 0, 0),
  (67, .aload_n 2, 68, 0, 0),
  (68, .iload 7, 70, 0, 0),
  (70, .invokevirtual 53, 73, 0, 0),
  (73, .imul, 74, 0, 0),
  (74, .bipush 100, 76, 0, 100),
  (76, .idiv, 77, 0, 0),
  (77, .iadd, 78, 0, 0),
  (78, .istore 5, 80, 0, 0),
  (80, .iload 8, 82, 0, 0),
  (82, .istore 6, 84, 0, 0),
  (84, .iinc 7 1, 87, 0, 1),
  (87, .goto (-77), 90, 10, 0),
  (90, .iload 5, 92, 0, 0),
  (92, .ireturn, 93, 0, 0)]
set_option maxRecDepth 100000 in
theorem okX8_timeExchanged : tf_okT cX8_timeExchanged tX8_timeExchanged := by unfold tf_okT; decide +kernel
theorem ftX8_timeExchanged : 1 ≤ 5 ∧ tf_okF RX8 fX8 ∧ tf_okT cX8_timeExchanged tX8_timeExchanged := ⟨by decide, okfX8, okX8_timeExchanged⟩
def mX8_timeExchanged : tf_M := (yX8_timeExchanged, cX8_timeExchanged, 9, (some .int))

def tX8_farFrom : tf_T := [(0, .iconst 0, 1, 0, 0),
  (1, .istore_n 3, 2, 0, 0),
  (2, .iconst 0, 3, 0, 0),
  (3, .istore 4, 5, 0, 0),
  (5, .iload 4, 7, 0, 0),
  (7, .aload_n 0, 8, 0, 0),
  (8, .getfield 14, 11, 0, 0),
  (11, .invokevirtual 27, 14, 0, 0),
  (14, .if_icmp .ge 38, 17, 52, 0),
  (17, .iload 4, 19, 0, 0),
  (19, .aload_n 1, 20, 0, 0),
  (20, .invokevirtual 27, 23, 0, 0),
  (23, .if_icmp .ge 29, 26, 52, 0),
  (26, .iload_n 3, 27, 0, 0),
  (27, .aload_n 1, 28, 0, 0),
  (28, .iload 4, 30, 0, 0),
  (30, .invokevirtual 31, 33, 0, 0),
  (33, .aload_n 0, 34, 0, 0),
  (34, .iload 4, 36, 0, 0),
  (36, .aload_n 2, 37, 0, 0),
  (37, .invokevirtual 58, 40, 0, 0),
  (40, .isub, 41, 0, 0),
  (41, .invokestatic 62, 44, 0, 0),
  (44, .iadd, 45, 0, 0),
  (45, .istore_n 3, 46, 0, 0),
  (46, .iinc 4 1, 49, 0, 1),
  (49, .goto (-44), 52, 5, 0),
  (52, .iload_n 3, 53, 0, 0),
  (53, .ireturn, 54, 0, 0)]
set_option maxRecDepth 100000 in
theorem okX8_farFrom : tf_okT cX8_farFrom tX8_farFrom := by unfold tf_okT; decide +kernel
theorem ftX8_farFrom : 1 ≤ 6 ∧ tf_okF RX8 fX8 ∧ tf_okT cX8_farFrom tX8_farFrom := ⟨by decide, okfX8, okX8_farFrom⟩
def mX8_farFrom : tf_M := (yX8_farFrom, cX8_farFrom, 5, (some .int))

def tX8_showsLaw : tf_T := [(0, .aload_n 0, 1, 0, 0),
  (1, .getfield 14, 4, 0, 0),
  (4, .iload_n 1, 5, 0, 0),
  (5, .iconst 1, 6, 0, 1),
  (6, .isub, 7, 0, 0),
  (7, .invokevirtual 31, 10, 0, 0),
  (10, .istore_n 3, 11, 0, 0),
  (11, .aload_n 0, 12, 0, 0),
  (12, .getfield 14, 15, 0, 0),
  (15, .iload_n 1, 16, 0, 0),
  (16, .invokevirtual 31, 19, 0, 0),
  (19, .istore 4, 21, 0, 0),
  (21, .iload_n 3, 22, 0, 0),
  (22, .invokestatic 43, 25, 0, 0),
  (25, .ifCond .ne 22, 28, 47, 0),
  (28, .iload 4, 30, 0, 0),
  (30, .invokestatic 43, 33, 0, 0),
  (33, .ifCond .ne 14, 36, 47, 0),
  (36, .iload_n 3, 37, 0, 0),
  (37, .iload 4, 39, 0, 0),
  (39, .iconst 0, 40, 0, 0),
  (40, .invokestatic 67, 43, 0, 0),
  (43, .iload_n 2, 44, 0, 0),
  (44, .if_icmp .eq 5, 47, 49, 0),
  (47, .iconst 0, 48, 0, 0),
  (48, .ireturn, 49, 0, 0),
  (49, .iload_n 2, 50, 0, 0),
  (50, .iconst 1, 51, 0, 1),
  (51, .if_icmp .ne 12, 54, 63, 0),
  (54, .iload_n 3, 55, 0, 0),
  (55, .iload 4, 57, 0, 0),
  (57, .invokestatic 72, 60, 0, 0),
  (60, .ifCond .ne 7, 63, 67, 0),
  (63, .iconst 1, 64, 0, 1),
  (64, .goto 4, 67, 68, 0),
  (67, .iconst 0, 68, 0, 0),
  (68, .ireturn, 69, 0, 0)]
set_option maxRecDepth 100000 in
theorem okX8_showsLaw : tf_okT cX8_showsLaw tX8_showsLaw := by unfold tf_okT; decide +kernel
theorem ftX8_showsLaw : 1 ≤ 4 ∧ tf_okF RX8 fX8 ∧ tf_okT cX8_showsLaw tX8_showsLaw := ⟨by decide, okfX8, okX8_showsLaw⟩
def mX8_showsLaw : tf_M := (yX8_showsLaw, cX8_showsLaw, 5, (some .boolean))

def tX8_outermost : tf_T := [(0, .bipush (-9), 2, 0, (-9)),
  (2, .istore 4, 4, 0, 0),
  (4, .iconst 1, 5, 0, 1),
  (5, .istore 5, 7, 0, 0),
  (7, .iload 5, 9, 0, 0),
  (9, .aload_n 0, 10, 0, 0),
  (10, .getfield 14, 13, 0, 0),
  (13, .invokevirtual 27, 16, 0, 0),
  (16, .if_icmp .ge 66, 19, 82, 0),
  (19, .iload 5, 21, 0, 0),
  (21, .aload_n 1, 22, 0, 0),
  (22, .invokevirtual 27, 25, 0, 0),
  (25, .if_icmp .ge 57, 28, 82, 0),
  (28, .aload_n 0, 29, 0, 0),
  (29, .iload 5, 31, 0, 0),
  (31, .iload_n 2, 32, 0, 0),
  (32, .invokevirtual 76, 35, 0, 0),
  (35, .ifCond .eq 41, 38, 76, 0),
  (38, .aload_n 1, 39, 0, 0),
  (39, .iload 5, 41, 0, 0),
  (41, .invokevirtual 31, 44, 0, 0),
  (44, .istore 6, 46, 0, 0),
  (46, .iload 4, 48, 0, 0),
  (48, .ifCond .lt 24, 51, 72, 0),
  (51, .iload_n 3, 52, 0, 0),
  (52, .ifCond .eq 13, 55, 65, 0),
  (55, .iload 6, 57, 0, 0),
  (57, .iload 4, 59, 0, 0),
  (59, .if_icmp .le 17, 62, 76, 0),
  (62, .goto 10, 65, 72, 0),
  (65, .iload 6, 67, 0, 0),
  (67, .iload 4, 69, 0, 0),
  (69, .if_icmp .ge 7, 72, 76, 0),
  (72, .iload 6, 74, 0, 0),
  (74, .istore 4, 76, 0, 0),
  (76, .iinc 5 1, 79, 0, 1),
  (79, .goto (-72), 82, 7, 0),
  (82, .iload 4, 84, 0, 0),
  (84, .ireturn, 85, 0, 0)]
set_option maxRecDepth 100000 in
theorem okX8_outermost : tf_okT cX8_outermost tX8_outermost := by unfold tf_okT; decide +kernel
theorem ftX8_outermost : 1 ≤ 5 ∧ tf_okF RX8 fX8 ∧ tf_okT cX8_outermost tX8_outermost := ⟨by decide, okfX8, okX8_outermost⟩
def mX8_outermost : tf_M := (yX8_outermost, cX8_outermost, 7, (some .int))

def tX8_acheAt : tf_T := [(0, .aload_n 0, 1, 0, 0),
  (1, .getfield 14, 4, 0, 0),
  (4, .iload_n 1, 5, 0, 0),
  (5, .invokevirtual 31, 8, 0, 0),
  (8, .istore_n 2, 9, 0, 0),
  (9, .aload_n 0, 10, 0, 0),
  (10, .getfield 14, 13, 0, 0),
  (13, .iload_n 1, 14, 0, 0),
  (14, .iconst 1, 15, 0, 1),
  (15, .isub, 16, 0, 0),
  (16, .invokevirtual 31, 19, 0, 0),
  (19, .istore_n 3, 20, 0, 0),
  (20, .iload_n 2, 21, 0, 0),
  (21, .invokestatic 43, 24, 0, 0),
  (24, .ifCond .eq 5, 27, 29, 0),
  (27, .iconst 0, 28, 0, 0),
  (28, .ireturn, 29, 0, 0),
  (29, .iload_n 3, 30, 0, 0),
  (30, .invokestatic 43, 33, 0, 0),
  (33, .ifCond .ne 17, 36, 50, 0),
  (36, .iload_n 3, 37, 0, 0),
  (37, .iload_n 2, 38, 0, 0),
  (38, .iconst 0, 39, 0, 0),
  (39, .invokestatic 67, 42, 0, 0),
  (42, .iconst 3, 43, 0, 3),
  (43, .if_icmp .ne 7, 46, 50, 0),
  (46, .iconst 3, 47, 0, 3),
  (47, .goto 4, 50, 51, 0),
  (50, .iconst 1, 51, 0, 1),
  (51, .ireturn, 52, 0, 0)]
set_option maxRecDepth 100000 in
theorem okX8_acheAt : tf_okT cX8_acheAt tX8_acheAt := by unfold tf_okT; decide +kernel
theorem ftX8_acheAt : 1 ≤ 4 ∧ tf_okF RX8 fX8 ∧ tf_okT cX8_acheAt tX8_acheAt := ⟨by decide, okfX8, okX8_acheAt⟩
def mX8_acheAt : tf_M := (yX8_acheAt, cX8_acheAt, 4, (some .int))

def tX8_acheOf : tf_T := [(0, .iconst 0, 1, 0, 0),
  (1, .istore_n 2, 2, 0, 0),
  (2, .iconst 0, 3, 0, 0),
  (3, .istore_n 3, 4, 0, 0),
  (4, .iload_n 3, 5, 0, 0),
  (5, .aload_n 0, 6, 0, 0),
  (6, .getfield 14, 9, 0, 0),
  (9, .invokevirtual 27, 12, 0, 0),
  (12, .if_icmp .ge 33, 15, 45, 0),
  (15, .aload_n 0, 16, 0, 0),
  (16, .getfield 14, 19, 0, 0),
  (19, .iload_n 3, 20, 0, 0),
  (20, .invokevirtual 31, 23, 0, 0),
  (23, .iconst 0, 24, 0, 0),
  (24, .invokestatic 80, 27, 0, 0),
  (27, .iload_n 1, 28, 0, 0),
  (28, .if_icmp .ne 11, 31, 39, 0),
  (31, .iload_n 2, 32, 0, 0),
  (32, .aload_n 0, 33, 0, 0),
  (33, .iload_n 3, 34, 0, 0),
  (34, .invokevirtual 84, 37, 0, 0),
  (37, .iadd, 38, 0, 0),
  (38, .istore_n 2, 39, 0, 0),
  (39, .iinc 3 1, 42, 0, 1),
  (42, .goto (-38), 45, 4, 0),
  (45, .iload_n 2, 46, 0, 0),
  (46, .ireturn, 47, 0, 0)]
set_option maxRecDepth 100000 in
theorem okX8_acheOf : tf_okT cX8_acheOf tX8_acheOf := by unfold tf_okT; decide +kernel
theorem ftX8_acheOf : 1 ≤ 5 ∧ tf_okF RX8 fX8 ∧ tf_okT cX8_acheOf tX8_acheOf := ⟨by decide, okfX8, okX8_acheOf⟩
def mX8_acheOf : tf_M := (yX8_acheOf, cX8_acheOf, 4, (some .int))

def tX8_pausesWith : tf_T := [(0, .iconst 0, 1, 0, 0),
  (1, .istore_n 3, 2, 0, 0),
  (2, .iconst 0, 3, 0, 0),
  (3, .istore 4, 5, 0, 0),
  (5, .iconst 0, 6, 0, 0),
  (6, .istore 5, 8, 0, 0),
  (8, .iload 5, 10, 0, 0),
  (10, .aload_n 0, 11, 0, 0),
  (11, .getfield 14, 14, 0, 0),
  (14, .invokevirtual 27, 17, 0, 0),
  (17, .if_icmp .ge 80, 20, 97, 0),
  (20, .aload_n 0, 21, 0, 0),
  (21, .iload 5, 23, 0, 0),
  (23, .invokevirtual 84, 26, 0, 0),
  (26, .istore 6, 28, 0, 0),
  (28, .iload_n 3, 29, 0, 0),
  (29, .iload 6, 31, 0, 0),
  (31, .iadd, 32, 0, 0),
  (32, .iload_n 1, 33, 0, 0),
  (33, .isub, 34, 0, 0),
  (34, .istore 7, 36, 0, 0),
  (36, .iload 6, 38, 0, 0),
  (38, .iload_n 1, 39, 0, 0),
  (39, .if_icmp .le 6, 42, 45, 0),
  (42, .bipush (-9), 44, 0, (-9)),
  (44, .ireturn, 45, 0, 0),
  (45, .iload 7, 47, 0, 0),
  (47, .ifCond .le 39, 50, 86, 0),
  (50, .iload_n 2, 51, 0, 0),
  (51, .iconst 1, 52, 0, 1),
  (52, .if_icmp .ge 6, 55, 58, 0),
  (55, .bipush (-9), 57, 0, (-9)),
  (57, .ireturn, 58, 0, 0),
  (58, .iload 7, 60, 0, 0),
  (60, .iload_n 2, 61, 0, 0),
  (61, .iadd, 62, 0, 0),
  (62, .iconst 1, 63, 0, 1),
  (63, .isub, 64, 0, 0),
  (64, .iload_n 2, 65, 0, 0),
  (65, .idiv, 66, 0, 0),
  (66, .istore 8, 68, 0, 0),
  (68, .iload 4, 70, 0, 0),
  (70, .iload 8, 72, 0, 0),
  (72, .iadd, 73, 0, 0),
  (73, .istore 4, 75, 0, 0),
  (75, .iconst 0, 76, 0, 0),
  (76, .iload_n 3, 77, 0, 0),
  (77, .iload 8, 79, 0, 0),
  (79, .iload_n 2, 80, 0, 0),
  (80, .imul, 81, 0, 0),
  (81, .isub, 82, 0, 0),
  (82, .invokestatic 87, 85, 0, 0),
  (85, .istore_n 3, 86, 0, 0),
  (86, .iload_n 3, 87, 0, 0),
  (87, .iload 6, 89, 0, 0),
  (89, .iadd, 90, 0, 0),
  (90, .istore_n 3, 91, 0, 0),
  (91, .iinc 5 1, 94, 0, 1),
  (94, .goto (-86), 97, 8, 0),
  (97, .iload 4, 99, 0, 0),
  (99, .ireturn, 100, 0, 0)]
set_option maxRecDepth 100000 in
theorem okX8_pausesWith : tf_okT cX8_pausesWith tX8_pausesWith := by unfold tf_okT; decide +kernel
theorem ftX8_pausesWith : 1 ≤ 5 ∧ tf_okF RX8 fX8 ∧ tf_okT cX8_pausesWith tX8_pausesWith := ⟨by decide, okfX8, okX8_pausesWith⟩
def mX8_pausesWith : tf_M := (yX8_pausesWith, cX8_pausesWith, 9, (some .int))

def tX8_init : tf_T := [(0, .aload_n 0, 1, 0, 0),
  (1, .invokespecial 3, 4, 0, 0),
  (4, .aload_n 0, 5, 0, 0),
  (5, .new 9, 8, 0, 0),
  (8, .dup, 9, 0, 0),
  (9, .bipush 40, 11, 0, 40),
  (11, .invokespecial 11, 14, 0, 0),
  (14, .putfield 14, 17, 0, 0),
  (17, .aload_n 0, 18, 0, 0),
  (18, .bipush 30, 20, 0, 30),
  (20, .newarray .boolean, 22, 0, 0),
  (22, .putfield 20, 25, 0, 0),
  (25, .return_, 26, 0, 0)]
set_option maxRecDepth 100000 in
theorem okX8_init : tf_okT cX8_init tX8_init := by unfold tf_okT; decide +kernel
theorem ftX8_init : 1 ≤ 2 ∧ tf_okF RX8 fX8 ∧ tf_okT cX8_init tX8_init := ⟨by decide, okfX8, okX8_init⟩
def mX8_init : tf_M := (yX8_init, cX8_init, 1, none)

set_option maxRecDepth 100000 in
theorem lX8_11 : tf_okI RX8 11 1 mX5_init := by unfold tf_okI tf_okL; decide +kernel

set_option maxRecDepth 100000 in
theorem lX8_24 : tf_okV RX8 24 0 3 mX5_clear := by unfold tf_okV tf_okL; decide +kernel

set_option maxRecDepth 100000 in
theorem lX8_27 : tf_okV RX8 27 0 3 mX5_size := by unfold tf_okV tf_okL; decide +kernel

set_option maxRecDepth 100000 in
theorem lX8_31 : tf_okV RX8 31 1 3 mX5_at := by unfold tf_okV tf_okL; decide +kernel

set_option maxRecDepth 100000 in
theorem lX8_35 : tf_okV RX8 35 1 0 mX0_keyAt := by unfold tf_okV tf_okL; decide +kernel

set_option maxRecDepth 100000 in
theorem lX8_40 : tf_okV RX8 40 1 3 mX5_add := by unfold tf_okV tf_okL; decide +kernel

set_option maxRecDepth 100000 in
theorem lX8_43 : tf_okN RX8 43 1 mX10_noKey := by unfold tf_okN tf_okL; decide +kernel

set_option maxRecDepth 100000 in
theorem lX8_47 : tf_okV RX8 47 3 1 mX1_gapTo := by unfold tf_okV tf_okL; decide +kernel

set_option maxRecDepth 100000 in
theorem lX8_53 : tf_okV RX8 53 1 2 mX3_hundredthsAt := by unfold tf_okV tf_okL; decide +kernel

set_option maxRecDepth 100000 in
theorem lX8_58 : tf_okV RX8 58 2 5 mX8_gapAt := by unfold tf_okV tf_okL; decide +kernel

set_option maxRecDepth 100000 in
theorem lX8_67 : tf_okS RX8 67 3 mX2_lawBetween := by unfold tf_okS tf_okL; decide +kernel

set_option maxRecDepth 100000 in
theorem lX8_72 : tf_okS RX8 72 2 mX2_linesBetween := by unfold tf_okS tf_okL; decide +kernel

set_option maxRecDepth 100000 in
theorem lX8_76 : tf_okV RX8 76 2 5 mX8_showsLaw := by unfold tf_okV tf_okL; decide +kernel

set_option maxRecDepth 100000 in
theorem lX8_80 : tf_okS RX8 80 2 mX2_fingerBy := by unfold tf_okS tf_okL; decide +kernel

set_option maxRecDepth 100000 in
theorem lX8_84 : tf_okV RX8 84 1 5 mX8_acheAt := by unfold tf_okV tf_okL; decide +kernel

/-! STROKES: the keys of MEANT -/
def tf_kk (f : Nat → Nat) (b i : Nat) : Nat := tf_ke f b (f (144 + i))
def tf_ll (f : Nat → Nat) (h j : Nat) : Nat := f (120 + 6 * h + j)
def tf_pr (K : Nat → Nat) (i : Nat) : Nat := if i = 0 then 30 else K (i - 1)
theorem tf_pr_s {K : Nat → Nat} {i : Nat} : tf_pr K (i + 1) = K i := by unfold tf_pr; rw [if_neg (by omega), Nat.add_sub_cancel]
theorem tf_pr_le {K : Nat → Nat} {n i : Nat} (h : ∀ i, i < n → K i ≤ 30) (hi : i ≤ n) : tf_pr K i ≤ 30 := by
  unfold tf_pr
  split
  · omega
  · exact h _ (by omega)
theorem tf_gL_gt (f : Nat → Nat) (h b i t : Nat) : tf_gL (tf_ll f h) (tf_pr (tf_kk f b) i) (tf_kk f b i) t = tf_gt f h b i t := by
  unfold tf_gL tf_gt tf_pr
  by_cases e : i = 0
  · subst e
    rw [if_pos rfl, if_pos rfl, if_pos (Or.inl rfl)]
    rfl
  · rw [if_neg e, show 144 + i - 1 = 144 + (i - 1) by omega]
    show (if tf_kk f b i = 30 then 999 else if tf_kk f b (i - 1) = 30 then tf_ll f h 0 else _) = (if tf_kk f b i = 30 then 999 else if i = 0 ∨ tf_kk f b (i - 1) = 30 then f (120 + 6 * h) else tf_ga f h (tf_kk f b (i - 1)) (tf_kk f b i) t)
    by_cases a : tf_kk f b i = 30
    · rw [if_pos a, if_pos a]
    · rw [if_neg a, if_neg a]
      by_cases c : tf_kk f b (i - 1) = 30
      · rw [if_pos c, if_pos (Or.inr c)]
        rfl
      · rw [if_neg c, if_neg (show ¬ (i = 0 ∨ tf_kk f b (i - 1) = 30) from fun q => by rcases q with q | q; exact e q; exact c q)]
        rfl
theorem tf_gL_le {L : Nat → Nat} (l : ∀ j, j < 6 → L j ≤ 999) {p q t : Nat} (hp : p ≤ 30) (hq : q ≤ 30) : tf_gL L p q t ≤ 12000 := by
  unfold tf_gL
  have a1 := l 0 (by omega)
  have a2 := l 1 (by omega)
  have a3 := l 2 (by omega)
  have a4 := l 3 (by omega)
  have a5 := l 4 (by omega)
  have a6 := l 5 (by omega)
  split
  · omega
  · split
    · omega
    · have d1 := tf_di_le (show p / 10 < 3 by omega) (show q / 10 < 3 by omega)
      have d2 := tf_di_le (show p % 10 < 10 by omega) (show q % 10 < 10 by omega)
      have m1 := Nat.mul_le_mul a5 (show tf_di (p % 10) (q % 10) + tf_di (p / 10) (q / 10) ≤ 11 by omega)
      have m2 := Nat.mul_le_mul a6 (show tf_di (p / 10) (q / 10) ≤ 2 by omega)
      repeat (first | split | omega)
theorem tf_kk_le (f : Nat → Nat) (b i : Nat) : tf_kk f b i ≤ 30 := tf_ke_le f b _
theorem v_prevK {G : tf_G} {S : tf_Sg} {o cap n : Nat} {K : Nat → Nat} (h : tf_sV G S o cap n (fun j => tf_on 30 (K j))) {k : Nat} (hk : k ≤ n) : tf_Fn mX5_at 1 0 0 G S [.ref o, .int (nI k - 1)] G S (some (.int (tf_on 30 (tf_pr K k)))) := by
  have h2 := v_prev h hk
  have e : (if k = 0 then (-9 : Int32) else (fun j => tf_on 30 (K j)) (k - 1)) = tf_on 30 (tf_pr K k) := by
    unfold tf_pr
    by_cases q : k = 0
    · rw [if_pos q, if_pos q]; rfl
    · rw [if_neg q, if_neg q]
  rw [e] at h2
  exact h2
/-- which keys are used by n letters -/
def tf_us (K : Nat → Nat) (k : Nat) : Nat → Bool
  | 0 => false
  | n + 1 => tf_us K k n || (K n == k)
theorem tf_us_s {K : Nat → Nat} {k n : Nat} : tf_us K k (n + 1) = (tf_us K k n || (K n == k)) := rfl
theorem tf_us_iff (K : Nat → Nat) (k : Nat) : ∀ n, tf_us K k n = true ↔ ∃ i, i < n ∧ K i = k
  | 0 => ⟨fun h => Bool.noConfusion h, fun ⟨i, h, _⟩ => absurd h (Nat.not_lt_zero i)⟩
  | n + 1 => by
    rw [tf_us_s, Bool.or_eq_true, tf_us_iff K k n, beq_iff_eq]
    constructor
    · rintro (⟨i, h1, h2⟩ | h)
      · exact ⟨i, by omega, h2⟩
      · exact ⟨n, by omega, h⟩
    · rintro ⟨i, h1, h2⟩
      by_cases q : i = n
      · exact Or.inr (q ▸ h2)
      · exact Or.inl ⟨i, by omega, h2⟩
/-- laid out: n letters on the keys K -/
def tf_ly (S : tf_Sg) (K : Nat → Nat) (n : Nat) : tf_Sg := fun x k => if x = 122 ∧ k < n then tf_on 30 (K k) else if x = 121 ∧ k = 1 then nI n else if x = 123 ∧ k < 30 then (if tf_us K k n = true then 1 else 0) else S x k
theorem tf_ly_fr {S : tf_Sg} {K : Nat → Nat} {n x : Nat} (h : x < 121 ∨ 123 < x) : tf_ly S K n x = S x := by
  funext k
  show (if x = 122 ∧ k < n then _ else if x = 121 ∧ k = 1 then _ else if x = 123 ∧ k < 30 then _ else S x k) = S x k
  rw [if_neg (show ¬ (x = 122 ∧ k < n) by omega), if_neg (show ¬ (x = 121 ∧ k = 1) by omega), if_neg (show ¬ (x = 123 ∧ k < 30) by omega)]
theorem tf_ly_K {N : Nat} {S : tf_Sg} {K : Nat → Nat} {n : Nat} (h : n ≤ 40) : tf_sV (tf_GG N) (tf_ly S K n) 121 40 n (fun j => tf_on 30 (K j)) := by
  refine ⟨se121, ?_, h, fun j hj => ?_⟩
  · exact (if_neg (show ¬ (121 = 122 ∧ 1 < n) by omega)).trans (if_pos ⟨rfl, rfl⟩)
  · show tf_ly S K n 122 j = tf_on 30 (K j)
    exact if_pos ⟨rfl, hj⟩
theorem tf_ly_u {S : tf_Sg} {K : Nat → Nat} {n k : Nat} (h : k < 30) : tf_ly S K n 123 k = if tf_us K k n = true then 1 else 0 := by
  show (if 123 = 122 ∧ k < n then _ else if 123 = 121 ∧ k = 1 then _ else if 123 = 123 ∧ k < 30 then (if tf_us K k n = true then (1 : Int32) else 0) else _) = _
  rw [if_neg (show ¬ (123 = 122 ∧ k < n) by omega), if_neg (show ¬ (123 = 121 ∧ k = 1) by omega), if_pos ⟨rfl, h⟩]
theorem tf_ly_0 {S : tf_Sg} {K : Nat → Nat} : tf_fll (tf_set S 121 1 0) 123 30 0 = tf_ly S K 0 := by
  funext x k
  show (if x = 123 ∧ k < 30 then (0 : Int32) else if x = 121 ∧ k = 1 then 0 else S x k) = (if x = 122 ∧ k < 0 then _ else if x = 121 ∧ k = 1 then nI 0 else if x = 123 ∧ k < 30 then (if tf_us K k 0 = true then (1 : Int32) else 0) else S x k)
  rw [if_neg (show ¬ (x = 122 ∧ k < 0) by omega)]
  by_cases a : x = 123 ∧ k < 30
  · rw [if_pos a, if_neg (show ¬ (x = 121 ∧ k = 1) by omega), if_pos a, if_neg (show ¬ tf_us K k 0 = true from fun q => Bool.noConfusion q)]
  · rw [if_neg a, if_neg a]
    rfl
theorem tf_ly_a {S : tf_Sg} {K : Nat → Nat} {n x k : Nat} : tf_ap (tf_ly S K n) 121 122 n (tf_on 30 (K n)) x k = if x = 122 ∧ k < n + 1 then tf_on 30 (K k) else if x = 121 ∧ k = 1 then nI (n + 1) else if x = 123 ∧ k < 30 then (if tf_us K k n = true then 1 else 0) else S x k := by
  show (if x = 121 ∧ k = 1 then nI (n + 1) else if x = 122 ∧ k = n then tf_on 30 (K n) else if x = 122 ∧ k < n then tf_on 30 (K k) else if x = 121 ∧ k = 1 then nI n else if x = 123 ∧ k < 30 then (if tf_us K k n = true then (1 : Int32) else 0) else S x k) = _
  by_cases a : x = 121 ∧ k = 1
  · rw [if_pos a, if_neg (show ¬ (x = 122 ∧ k < n + 1) by omega), if_pos a]
  · rw [if_neg a, if_neg a, if_neg a]
    by_cases c : x = 122 ∧ k = n
    · rw [if_pos c, if_pos ⟨c.1, by omega⟩, c.2]
    · rw [if_neg c]
      by_cases d : x = 122 ∧ k < n
      · rw [if_pos d, if_pos ⟨d.1, by omega⟩]
      · rw [if_neg d, if_neg (show ¬ (x = 122 ∧ k < n + 1) by omega)]
theorem tf_ly_s1 {S : tf_Sg} {K : Nat → Nat} {n : Nat} (h : ¬ K n < 30) : tf_ap (tf_ly S K n) 121 122 n (tf_on 30 (K n)) = tf_ly S K (n + 1) := by
  funext x k
  rw [tf_ly_a]
  show _ = (if x = 122 ∧ k < n + 1 then tf_on 30 (K k) else if x = 121 ∧ k = 1 then nI (n + 1) else if x = 123 ∧ k < 30 then (if (tf_us K k n || (K n == k)) = true then (1 : Int32) else 0) else S x k)
  by_cases a : x = 123 ∧ k < 30
  · rw [show (K n == k) = false by simp; omega, Bool.or_false]
  · rw [if_neg a, if_neg a]
theorem tf_ly_s2 {S : tf_Sg} {K : Nat → Nat} {n : Nat} (h : K n < 30) : tf_set (tf_ap (tf_ly S K n) 121 122 n (tf_on 30 (K n))) 123 (K n) 1 = tf_ly S K (n + 1) := by
  funext x k
  show (if x = 123 ∧ k = K n then (1 : Int32) else tf_ap (tf_ly S K n) 121 122 n (tf_on 30 (K n)) x k) = (if x = 122 ∧ k < n + 1 then tf_on 30 (K k) else if x = 121 ∧ k = 1 then nI (n + 1) else if x = 123 ∧ k < 30 then (if (tf_us K k n || (K n == k)) = true then (1 : Int32) else 0) else S x k)
  rw [tf_ly_a]
  by_cases a : x = 123 ∧ k = K n
  · rw [if_pos a, if_neg (show ¬ (x = 122 ∧ k < n + 1) by omega), if_neg (show ¬ (x = 121 ∧ k = 1) by omega), if_pos (show x = 123 ∧ k < 30 from ⟨a.1, by omega⟩), if_pos (show (tf_us K k n || (K n == k)) = true by rw [a.2]; simp)]
  · rw [if_neg a]
    by_cases c : x = 123 ∧ k < 30
    · rw [show (K n == k) = false by simp; intro q; exact a ⟨c.1, q.symm⟩, Bool.or_false]
    · rw [if_neg c, if_neg c]
/-- TIME letter by letter -/
def tf_tS (L K H : Nat → Nat) (t : Nat) : Nat → Nat → Nat
  | 0, _ => 0
  | m + 1, k => tf_gL L (tf_pr K k) (K k) t * H k / 100 + tf_tS L K H t m (k + 1)
theorem tf_tS_s {L K H : Nat → Nat} {t m k : Nat} : tf_tS L K H t (m + 1) k = tf_gL L (tf_pr K k) (K k) t * H k / 100 + tf_tS L K H t m (k + 1) := rfl
theorem tf_tS_le {L K H : Nat → Nat} {t n : Nat} (l : ∀ j, j < 6 → L j ≤ 999) (hk : ∀ i, i < n → K i ≤ 30) (hh : ∀ i, i < n → H i ≤ 100) : ∀ m k, k + m = n → tf_tS L K H t m k ≤ 12000 * m
  | 0, _, _ => Nat.le_refl _
  | m + 1, k, h => by
    rw [tf_tS_s]
    have h1 := tf_tS_le (t := t) l hk hh m (k + 1) (by omega)
    have h2 := Nat.mul_le_mul (tf_gL_le (t := t) l (tf_pr_le hk (show k ≤ n by omega)) (hk k (by omega))) (hh k (by omega))
    omega
/-- a key behind an EXCHANGE -/
def tf_xc (a c k : Nat) : Nat := if k = a then c else if k = c then a else k
theorem tf_xc_le {a c k : Nat} (ha : a < 30) (hc : c < 30) (hk : k ≤ 30) : tf_xc a c k ≤ 30 := by unfold tf_xc; split; omega; split <;> omega
theorem tf_hu_le (f : Nat → Nat) (i : Nat) : tf_hu f i ≤ 100 := by
  have h : ∀ m a, tf_hg f i m a ≤ 100 := by
    intro m
    induction m with
    | zero => intro a; exact Nat.le_refl _
    | succ m ih =>
      intro a
      rw [tf_hg_s]
      split
      · omega
      · split
        · exact tf_pt_le f _
        · exact ih _
  exact h 41 0

set_option maxHeartbeats 1000000 in
theorem t_layOut {N : Nat} {S : tf_Sg} {f : Nat → Nat} {r b : Nat} (hM : tf_sV (tf_GG N) S 28 40 (f 364) (fun j => nI (f (144 + j)))) (hb : ∀ k, f k < 10000) (hB : tf_bd (tf_GG N) r) (hr : tf_rf (tf_GG N) r 1 < 121 ∨ 123 < tf_rf (tf_GG N) r 1) (hkk : ∀ l, l < 26 → S (tf_rf (tf_GG N) r 1) l = tf_on 30 (tf_ke f b l)) (g6 : ∀ i, i < f 364 → f (144 + i) < 26) : tf_Fn mX8_layOut 2 0 0 (tf_GG N) S [.ref 120, .ref 28, .ref r] (tf_GG N) (tf_ly S (tf_kk f b) (f 364)) none := by
  refine tf_Fn_of (own := RX8) false ⟨by decide, rfl, by decide⟩ (Nat.le_of_ble_eq_true rfl) trivial (fun x hx hR => ?_)
  show tf_K x 0 0 (tf_GG N) S 0 [some (.ref 120), some (.ref 28), some (.ref r), none, none] []
  have m40 := hM.2.2.1
  have bt := hB.1
  refine tf_go hx ftX8_layOut 2 [] 4 [some (.ref 120), some (.ref 28), some (.ref r), none, none] [.ref 121] S rfl ⟨by decide, by decide, rfl⟩ ⟨trivial, ⟨by first | assumption | rfl | decide | omega | exact Nat.succ_ne_zero _, by first | assumption | rfl | decide | omega | exact Nat.succ_ne_zero _⟩⟩ ?_
  refine tf_cV hx ftX8_layOut (nx := 7) (As := []) (rest := []) (st2 := []) (c_clear rfl) rfl lX8_24 (by first | assumption | rfl | decide) rfl ⟨rfl, by decide, by decide, by decide, rfl, rfl⟩ ?_
  refine tf_go hx ftX8_layOut 2 [] 9 [some (.ref 120), some (.ref 28), some (.ref r), some (.int 0), none] [] (tf_set S 121 1 0) rfl ⟨by decide, by decide, rfl⟩ trivial ?_
  have loop : ∀ (m k : Nat), k + m = 30 → tf_K x 0 0 (tf_GG N) (tf_fll (tf_set S 121 1 0) 123 k 0) 9 [some (.ref 120), some (.ref 28), some (.ref r), some (.int (nI k)), none] [] := by
    intro m
    induction m with
    | zero =>
      intro k hk
      refine tf_go hx ftX8_layOut 2 [] 12 [some (.ref 120), some (.ref 28), some (.ref r), some (.int (nI k)), none] [.int 30, .int (nI k)] (tf_fll (tf_set S 121 1 0) 123 k 0) rfl ⟨by decide, by decide, rfl⟩ trivial ?_
      refine tf_go hx ftX8_layOut 1 [true] 28 [some (.ref 120), some (.ref 28), some (.ref r), some (.int (nI k)), none] [] (tf_fll (tf_set S 121 1 0) 123 k 0) rfl ⟨by decide, by decide, rfl⟩ ⟨trivial, (tf_leT (a := 30) (b := k) (rfl : (30 : Int32) = nI 30) rfl (by omega) (by omega) (by omega))⟩ ?_
      rw [show k = 30 by omega, tf_ly_0 (K := tf_kk f b)]
      refine tf_go hx ftX8_layOut 2 [] 30 [some (.ref 120), some (.ref 28), some (.ref r), some (.int 0), none] [] (tf_ly S (tf_kk f b) 0) rfl ⟨by decide, by decide, rfl⟩ trivial ?_
      refine tf_fgt [some (.ref 120), some (.ref 28), some (.ref r), some (.int 0), none] (by simp [tf_lss]) ?_
      have loop2 : ∀ (m k : Nat), k + m = f 364 → tf_K x 0 0 (tf_GG N) (tf_ly S (tf_kk f b) k) 30 [some (.ref 120), some (.ref 28), some (.ref r), some (.int (nI k)), none] [] := by
        intro m
        induction m with
        | zero =>
          intro k hk
          have hM2 : tf_sV (tf_GG N) (tf_ly S (tf_kk f b) k) 28 40 (f 364) (fun j => nI (f (144 + j))) := tf_sV_fr hM (tf_ly_fr (by decide)) (tf_ly_fr (by show 29 < 121 ∨ 123 < 29; decide))
          refine tf_go hx ftX8_layOut 2 [] 32 [some (.ref 120), some (.ref 28), some (.ref r), some (.int (nI k)), none] [.ref 28, .int (nI k)] (tf_ly S (tf_kk f b) k) rfl ⟨by decide, by decide, rfl⟩ trivial ?_
          refine tf_cV hx ftX8_layOut (nx := 35) (As := []) (rest := [.int (nI k)]) (st2 := [.int (nI (f 364)), .int (nI k)]) (v_size hM2) rfl lX8_27 (by first | assumption | rfl | decide) rfl ⟨rfl, by decide, by decide, by decide, rfl, rfl⟩ ?_
          refine tf_go hx ftX8_layOut 1 [true] 80 [some (.ref 120), some (.ref 28), some (.ref r), some (.int (nI k)), none] [] (tf_ly S (tf_kk f b) k) rfl ⟨by decide, by decide, rfl⟩ ⟨trivial, (tf_leT (a := (f 364)) (b := k) rfl rfl (by omega) (by omega) (by omega))⟩ ?_
          exact tf_ret ftX8_layOut hR rfl ⟨by decide, by decide⟩ rfl (by rw [show k = f 364 by omega]) rfl
        | succ m ih =>
          intro k hk
          have hM2 : tf_sV (tf_GG N) (tf_ly S (tf_kk f b) k) 28 40 (f 364) (fun j => nI (f (144 + j))) := tf_sV_fr hM (tf_ly_fr (by decide)) (tf_ly_fr (by show 29 < 121 ∨ 123 < 29; decide))
          have l26 := g6 k (by omega)
          have kle := tf_kk_le f b k
          refine tf_go hx ftX8_layOut 2 [] 32 [some (.ref 120), some (.ref 28), some (.ref r), some (.int (nI k)), none] [.ref 28, .int (nI k)] (tf_ly S (tf_kk f b) k) rfl ⟨by decide, by decide, rfl⟩ trivial ?_
          refine tf_cV hx ftX8_layOut (nx := 35) (As := []) (rest := [.int (nI k)]) (st2 := [.int (nI (f 364)), .int (nI k)]) (v_size hM2) rfl lX8_27 (by first | assumption | rfl | decide) rfl ⟨rfl, by decide, by decide, by decide, rfl, rfl⟩ ?_
          refine tf_go hx ftX8_layOut 1 [false] 38 [some (.ref 120), some (.ref 28), some (.ref r), some (.int (nI k)), none] [] (tf_ly S (tf_kk f b) k) rfl ⟨by decide, by decide, rfl⟩ ⟨trivial, (tf_leF (a := (f 364)) (b := k) rfl rfl (by omega) (by omega) (by omega))⟩ ?_
          refine tf_go hx ftX8_layOut 3 [] 41 [some (.ref 120), some (.ref 28), some (.ref r), some (.int (nI k)), none] [.int (nI k), .ref 28, .ref r] (tf_ly S (tf_kk f b) k) rfl ⟨by decide, by decide, rfl⟩ trivial ?_
          refine tf_cV hx ftX8_layOut (nx := 44) (As := [.int (nI k)]) (rest := [.ref r]) (st2 := [.int (nI (f (144 + k))), .ref r]) (v_at hM2 (show k < f 364 by omega)) rfl lX8_31 (by first | assumption | rfl | decide) rfl ⟨rfl, by decide, by decide, by decide, rfl, rfl⟩ ?_
          refine tf_cV hx ftX8_layOut (nx := 47) (As := [.int (nI (f (144 + k)))]) (rest := []) (st2 := [.int (tf_on 30 (tf_kk f b k))]) ((by have h := b_keyAt (S := (tf_ly S (tf_kk f b) k)) (nI (f (144 + k))) hB; rw [if_pos ⟨tf_ltF (a := f (144 + k)) (b := 0) rfl rfl (by omega) (by omega) (by omega), tf_leF (a := 26) (b := f (144 + k)) rfl rfl l26 (by omega) (by omega)⟩, tf_cl_nI (by omega), tf_ly_fr hr, hkk _ l26] at h; exact h)) rfl lX8_35 (by first | assumption | rfl | decide) rfl ⟨rfl, by decide, by decide, by decide, rfl, rfl⟩ ?_
          refine tf_go hx ftX8_layOut 1 [] 49 [some (.ref 120), some (.ref 28), some (.ref r), some (.int (nI k)), some (.int (tf_on 30 (tf_kk f b k)))] [] (tf_ly S (tf_kk f b) k) rfl ⟨by decide, by decide, rfl⟩ trivial ?_
          refine tf_go hx ftX8_layOut 3 [] 55 [some (.ref 120), some (.ref 28), some (.ref r), some (.int (nI k)), some (.int (tf_on 30 (tf_kk f b k)))] [.int (tf_on 30 (tf_kk f b k)), .ref 121] (tf_ly S (tf_kk f b) k) rfl ⟨by decide, by decide, rfl⟩ ⟨trivial, ⟨by first | assumption | rfl | decide | omega | exact Nat.succ_ne_zero _, by first | assumption | rfl | decide | omega | exact Nat.succ_ne_zero _⟩⟩ ?_
          refine tf_cV hx ftX8_layOut (nx := 58) (As := [.int (tf_on 30 (tf_kk f b k))]) (rest := []) (st2 := []) ((show tf_Fn mX5_add 1 0 0 (tf_GG N) (tf_ly S (tf_kk f b) k) [.ref 121, .int (tf_on 30 (tf_kk f b k))] (tf_GG N) (tf_ap (tf_ly S (tf_kk f b) k) 121 122 k (tf_on 30 (tf_kk f b k))) none from v_add (tf_ly_K (show k ≤ 40 by omega)) (tf_on 30 (tf_kk f b k)) (show k < 40 by omega))) rfl lX8_40 (by first | assumption | rfl | decide) rfl ⟨rfl, by decide, by decide, by decide, rfl, rfl⟩ ?_
          by_cases e1 : tf_kk f b k < 30
          · rw [tf_on_y e1]
            refine tf_go hx ftX8_layOut 1 [] 60 [some (.ref 120), some (.ref 28), some (.ref r), some (.int (nI k)), some (.int (nI (tf_kk f b k)))] [.int (nI (tf_kk f b k))] (tf_ap (tf_ly S (tf_kk f b) k) 121 122 k (nI (tf_kk f b k))) rfl ⟨by decide, by decide, rfl⟩ trivial ?_
            refine tf_cN hx ftX8_layOut (nx := 63) (As := [.int (nI (tf_kk f b k))]) (rest := []) (st2 := [.int (if ¬ (nI (tf_kk f b k)) < 0 ∧ ¬ 30 ≤ (nI (tf_kk f b k)) then 0 else 1)]) (c_noKey (nI (tf_kk f b k))) rfl lX8_43 rfl ⟨rfl, by decide, by decide, by decide, rfl, rfl⟩ ?_
            rw [if_pos (show ¬ nI (tf_kk f b k) < 0 ∧ ¬ 30 ≤ nI (tf_kk f b k) from ⟨tf_ltF (a := tf_kk f b k) (b := 0) rfl rfl (by omega) (by omega) (by omega), tf_leF (a := 30) (b := tf_kk f b k) rfl rfl (by omega) (by omega) (by omega)⟩)]
            refine tf_go hx ftX8_layOut 1 [false] 66 [some (.ref 120), some (.ref 28), some (.ref r), some (.int (nI k)), some (.int (nI (tf_kk f b k)))] [] (tf_ap (tf_ly S (tf_kk f b) k) 121 122 k (nI (tf_kk f b k))) rfl ⟨by decide, by decide, rfl⟩ ⟨trivial, (by decide)⟩ ?_
            refine tf_go hx ftX8_layOut 4 [] 73 [some (.ref 120), some (.ref 28), some (.ref r), some (.int (nI k)), some (.int (nI (tf_kk f b k)))] [.int 1, .int (nI (tf_kk f b k)), .ref 123] (tf_ap (tf_ly S (tf_kk f b) k) 121 122 k (nI (tf_kk f b k))) rfl ⟨by decide, by decide, rfl⟩ ⟨trivial, ⟨by first | assumption | rfl | decide | omega | exact Nat.succ_ne_zero _, by first | assumption | rfl | decide | omega | exact Nat.succ_ne_zero _⟩⟩ ?_
            refine tf_go hx ftX8_layOut 1 [] 74 [some (.ref 120), some (.ref 28), some (.ref r), some (.int (nI k)), some (.int (nI (tf_kk f b k)))] [] (tf_set (tf_ap (tf_ly S (tf_kk f b) k) 121 122 k (nI (tf_kk f b k))) 123 (Int32.toNatClampNeg (nI (tf_kk f b k))) 1) rfl ⟨by decide, by decide, rfl⟩ ⟨trivial, ⟨by first | assumption | rfl | decide | omega | exact Nat.succ_ne_zero _, by exact tf_in (n := (tf_kk f b k)) (N := 30) rfl (by first | assumption | rfl) (by omega) (by decide), by first | exact Or.inl rfl | exact Or.inr rfl⟩⟩ ?_
            rw [show Int32.toNatClampNeg (nI (tf_kk f b k)) = (tf_kk f b k) from tf_cln rfl (by omega)]
            rw [show tf_set (tf_ap (tf_ly S (tf_kk f b) k) 121 122 k (nI (tf_kk f b k))) 123 (tf_kk f b k) 1 = (tf_ly S (tf_kk f b) (k + 1)) by rw [← tf_on_y e1]; exact tf_ly_s2 e1]
            refine tf_go hx ftX8_layOut 2 [] 30 [some (.ref 120), some (.ref 28), some (.ref r), some (.int ((nI k) + 1)), some (.int (nI (tf_kk f b k)))] [] (tf_ly S (tf_kk f b) (k + 1)) rfl ⟨by decide, by decide, rfl⟩ trivial ?_
            rw [show ((nI k) + 1) = nI (k + 1) from (tf_add (a := k) (b := 1) rfl (rfl : (1 : Int32) = nI 1))]
            refine tf_fgt [some (.ref 120), some (.ref 28), some (.ref r), some (.int (nI (k + 1))), none] (by simp [tf_lss]) ?_
            exact ih (k + 1) (by omega)
          · rw [tf_ly_s1 e1]
            rw [tf_on_n e1]
            refine tf_go hx ftX8_layOut 1 [] 60 [some (.ref 120), some (.ref 28), some (.ref r), some (.int (nI k)), some (.int (-9))] [.int (-9)] (tf_ly S (tf_kk f b) (k + 1)) rfl ⟨by decide, by decide, rfl⟩ trivial ?_
            refine tf_cN hx ftX8_layOut (nx := 63) (As := [.int (-9)]) (rest := []) (st2 := [.int (if ¬ (-9) < 0 ∧ ¬ 30 ≤ (-9) then 0 else 1)]) (c_noKey (-9)) rfl lX8_43 rfl ⟨rfl, by decide, by decide, by decide, rfl, rfl⟩ ?_
            rw [if_neg (show ¬ (¬ (-9 : Int32) < 0 ∧ ¬ 30 ≤ (-9 : Int32)) by decide)]
            refine tf_go hx ftX8_layOut 1 [true] 74 [some (.ref 120), some (.ref 28), some (.ref r), some (.int (nI k)), some (.int (-9))] [] (tf_ly S (tf_kk f b) (k + 1)) rfl ⟨by decide, by decide, rfl⟩ ⟨trivial, (by decide)⟩ ?_
            refine tf_go hx ftX8_layOut 2 [] 30 [some (.ref 120), some (.ref 28), some (.ref r), some (.int ((nI k) + 1)), some (.int (-9))] [] (tf_ly S (tf_kk f b) (k + 1)) rfl ⟨by decide, by decide, rfl⟩ trivial ?_
            rw [show ((nI k) + 1) = nI (k + 1) from (tf_add (a := k) (b := 1) rfl (rfl : (1 : Int32) = nI 1))]
            refine tf_fgt [some (.ref 120), some (.ref 28), some (.ref r), some (.int (nI (k + 1))), none] (by simp [tf_lss]) ?_
            exact ih (k + 1) (by omega)
      exact loop2 (f 364) 0 (by omega)
    | succ m ih =>
      intro k hk
      refine tf_go hx ftX8_layOut 2 [] 12 [some (.ref 120), some (.ref 28), some (.ref r), some (.int (nI k)), none] [.int 30, .int (nI k)] (tf_fll (tf_set S 121 1 0) 123 k 0) rfl ⟨by decide, by decide, rfl⟩ trivial ?_
      refine tf_go hx ftX8_layOut 1 [false] 15 [some (.ref 120), some (.ref 28), some (.ref r), some (.int (nI k)), none] [] (tf_fll (tf_set S 121 1 0) 123 k 0) rfl ⟨by decide, by decide, rfl⟩ ⟨trivial, (tf_leF (a := 30) (b := k) (rfl : (30 : Int32) = nI 30) rfl (by omega) (by omega) (by omega))⟩ ?_
      refine tf_go hx ftX8_layOut 4 [] 21 [some (.ref 120), some (.ref 28), some (.ref r), some (.int (nI k)), none] [.int 0, .int (nI k), .ref 123] (tf_fll (tf_set S 121 1 0) 123 k 0) rfl ⟨by decide, by decide, rfl⟩ ⟨trivial, ⟨by first | assumption | rfl | decide | omega | exact Nat.succ_ne_zero _, by first | assumption | rfl | decide | omega | exact Nat.succ_ne_zero _⟩⟩ ?_
      refine tf_go hx ftX8_layOut 1 [] 22 [some (.ref 120), some (.ref 28), some (.ref r), some (.int (nI k)), none] [] (tf_set (tf_fll (tf_set S 121 1 0) 123 k 0) 123 (Int32.toNatClampNeg (nI k)) 0) rfl ⟨by decide, by decide, rfl⟩ ⟨trivial, ⟨by first | assumption | rfl | decide | omega | exact Nat.succ_ne_zero _, by exact tf_in (n := k) (N := 30) rfl (by first | assumption | rfl) (by omega) (by decide), by first | exact Or.inl rfl | exact Or.inr rfl⟩⟩ ?_
      rw [show Int32.toNatClampNeg (nI k) = k from tf_cln rfl (by omega)]
      rw [tf_fll_s]
      refine tf_go hx ftX8_layOut 2 [] 9 [some (.ref 120), some (.ref 28), some (.ref r), some (.int ((nI k) + 1)), none] [] (tf_fll (tf_set S 121 1 0) 123 (k + 1) 0) rfl ⟨by decide, by decide, rfl⟩ trivial ?_
      rw [show ((nI k) + 1) = nI (k + 1) from (tf_add (a := k) (b := 1) rfl (rfl : (1 : Int32) = nI 1))]
      exact ih (k + 1) (by omega)
  have h0 := loop 30 0 (by omega)
  rw [tf_fll_0] at h0
  exact h0

set_option maxHeartbeats 1000000 in
theorem t_uses {N : Nat} {S : tf_Sg} {K : Nat → Nat} {n k : Nat} (hU : ∀ k, k < 30 → S 123 k = if tf_us K k n = true then 1 else 0) (hk : k < 30) : tf_Fn mX8_uses 2 0 0 (tf_GG N) S [.ref 120, .int (nI k)] (tf_GG N) S (some (.int (nI (if tf_us K k n = true then 1 else 0)))) := by
  refine tf_Fn_of (own := RX8) false ⟨by decide, rfl, by decide⟩ (Nat.le_of_ble_eq_true rfl) (by show nI (if _ then 1 else 0) = 0 ∨ _; split; exact Or.inr rfl; exact Or.inl rfl) (fun x hx hR => ?_)
  show tf_K x 0 0 (tf_GG N) S 0 [some (.ref 120), some (.int (nI k))] []
  refine tf_go hx ftX8_uses 1 [] 1 [some (.ref 120), some (.int (nI k))] [.int (nI k)] S rfl ⟨by decide, by decide, rfl⟩ trivial ?_
  refine tf_cN hx ftX8_uses (nx := 4) (As := [.int (nI k)]) (rest := []) (st2 := [.int (if ¬ (nI k) < 0 ∧ ¬ 30 ≤ (nI k) then 0 else 1)]) (c_noKey (nI k)) rfl lX8_43 rfl ⟨rfl, by decide, by decide, by decide, rfl, rfl⟩ ?_
  rw [if_pos (show ¬ nI k < 0 ∧ ¬ 30 ≤ nI k from ⟨tf_ltF (a := k) (b := 0) rfl rfl (by omega) (by omega) (by omega), tf_leF (a := 30) (b := k) rfl rfl (by omega) (by omega) (by omega)⟩)]
  refine tf_go hx ftX8_uses 1 [false] 7 [some (.ref 120), some (.int (nI k))] [] S rfl ⟨by decide, by decide, rfl⟩ ⟨trivial, (by decide)⟩ ?_
  refine tf_go hx ftX8_uses 3 [] 12 [some (.ref 120), some (.int (nI k))] [.int (nI k), .ref 123] S rfl ⟨by decide, by decide, rfl⟩ ⟨trivial, ⟨by first | assumption | rfl | decide | omega | exact Nat.succ_ne_zero _, by first | assumption | rfl | decide | omega | exact Nat.succ_ne_zero _⟩⟩ ?_
  refine tf_go hx ftX8_uses 1 [] 13 [some (.ref 120), some (.int (nI k))] [.int (S 123 (Int32.toNatClampNeg (nI k)))] S rfl ⟨by decide, by decide, rfl⟩ ⟨trivial, ⟨by first | assumption | rfl | decide | omega | exact Nat.succ_ne_zero _, by exact tf_in (n := k) (N := 30) rfl (by first | assumption | rfl) (by omega) (by decide)⟩⟩ ?_
  rw [show S 123 (Int32.toNatClampNeg (nI k)) = (if tf_us K k n = true then 1 else 0) by rw [tf_cl_nI (by omega)]; exact hU k hk]
  by_cases e1 : tf_us K k n = true
  · rw [if_pos e1]
    refine tf_go hx ftX8_uses 3 [false] 21 [some (.ref 120), some (.int (nI k))] [.int 1] S rfl ⟨by decide, by decide, rfl⟩ ⟨trivial, (by decide)⟩ ?_
    exact tf_ret ftX8_uses hR rfl ⟨by decide, by decide⟩ rfl rfl (by rw [if_pos e1]; rfl)
  · rw [if_neg e1]
    refine tf_go hx ftX8_uses 2 [true] 21 [some (.ref 120), some (.int (nI k))] [.int 0] S rfl ⟨by decide, by decide, rfl⟩ ⟨trivial, rfl⟩ ?_
    exact tf_ret ftX8_uses hR rfl ⟨by decide, by decide⟩ rfl rfl (by rw [if_neg e1]; rfl)

set_option maxHeartbeats 1000000 in
theorem t_gapAt {N : Nat} {S : tf_Sg} {K L : Nat → Nat} {n o : Nat} {i : Nat} (hK : tf_sV (tf_GG N) S 121 40 n (fun j => tf_on 30 (K j))) (hkk : ∀ i, i < n → K i ≤ 30) (hL : tf_hn (tf_GG N) o) (hl : ∀ j, j < 6 → S (tf_rf (tf_GG N) o 0) j = nI (L j)) (h1 : tf_k1 (tf_GG N) S) (hi : i < n) : tf_Fn mX8_gapAt 5 0 0 (tf_GG N) S [.ref 120, .int (nI i), .ref o] (tf_GG N) S (some (.int (nI (tf_gL L (tf_pr K i) (K i) 0)))) := by
  refine tf_Fn_of (own := RX8) false ⟨by decide, rfl, by decide⟩ (Nat.le_of_ble_eq_true rfl) trivial (fun x hx hR => ?_)
  show tf_K x 0 0 (tf_GG N) S 0 [some (.ref 120), some (.int (nI i)), some (.ref o)] []
  have hot := hL.1
  refine tf_go hx ftX8_gapAt 6 [] 8 [some (.ref 120), some (.int (nI i)), some (.ref o)] [.int ((nI i) - 1), .ref 121, .ref o] S rfl ⟨by decide, by decide, rfl⟩ ⟨trivial, ⟨by first | assumption | rfl | decide | omega | exact Nat.succ_ne_zero _, by first | assumption | rfl | decide | omega | exact Nat.succ_ne_zero _⟩⟩ ?_
  refine tf_cV hx ftX8_gapAt (nx := 11) (As := [.int ((nI i) - 1)]) (rest := [.ref o]) (st2 := [.int (tf_on 30 (tf_pr K i)), .ref o]) (v_prevK hK (show i ≤ n by omega)) rfl lX8_31 (by first | assumption | rfl | decide) rfl ⟨rfl, by decide, by decide, by decide, rfl, rfl⟩ ?_
  refine tf_go hx ftX8_gapAt 3 [] 16 [some (.ref 120), some (.int (nI i)), some (.ref o)] [.int (nI i), .ref 121, .int (tf_on 30 (tf_pr K i)), .ref o] S rfl ⟨by decide, by decide, rfl⟩ ⟨trivial, ⟨by first | assumption | rfl | decide | omega | exact Nat.succ_ne_zero _, by first | assumption | rfl | decide | omega | exact Nat.succ_ne_zero _⟩⟩ ?_
  refine tf_cV hx ftX8_gapAt (nx := 19) (As := [.int (nI i)]) (rest := [.int (tf_on 30 (tf_pr K i)), .ref o]) (st2 := [.int (tf_on 30 (K i)), .int (tf_on 30 (tf_pr K i)), .ref o]) (v_at hK hi) rfl lX8_31 (by first | assumption | rfl | decide) rfl ⟨rfl, by decide, by decide, by decide, rfl, rfl⟩ ?_
  refine tf_go hx ftX8_gapAt 1 [] 20 [some (.ref 120), some (.int (nI i)), some (.ref o)] [.int 0, .int (tf_on 30 (K i)), .int (tf_on 30 (tf_pr K i)), .ref o] S rfl ⟨by decide, by decide, rfl⟩ trivial ?_
  refine tf_cV hx ftX8_gapAt (nx := 23) (As := [.int (tf_on 30 (tf_pr K i)), .int (tf_on 30 (K i)), .int 0]) (rest := []) (st2 := [.int (nI (tf_gL L (tf_pr K i) (K i) 0))]) (h_gapTo (tf_pr K i) (K i) 0 hL hl h1 (tf_pr_le hkk (by omega)) (hkk i hi) (by decide)) rfl lX8_47 (by first | assumption | rfl | decide) rfl ⟨rfl, by decide, by decide, by decide, rfl, rfl⟩ ?_
  exact tf_ret ftX8_gapAt hR rfl ⟨by decide, by decide⟩ rfl rfl rfl

set_option maxHeartbeats 1000000 in
theorem t_hund {N : Nat} {S : tf_Sg} {H : Nat → Nat} {n i : Nat} (hH : tf_sV (tf_GG N) S 118 40 n (fun j => nI (H j))) (hi : i < n) : tf_Fn mX3_hundredthsAt 2 0 0 (tf_GG N) S [.ref 111, .int (nI i)] (tf_GG N) S (some (.int (nI (H i)))) := by
  refine tf_Fn_of (own := RX3) false ⟨by decide, rfl, by decide⟩ (Nat.le_of_ble_eq_true rfl) trivial (fun x hx hR => ?_)
  show tf_K x 0 0 (tf_GG N) S 0 [some (.ref 111), some (.int (nI i))] []
  refine tf_go hx ftX3_hundredthsAt 3 [] 5 [some (.ref 111), some (.int (nI i))] [.int (nI i), .ref 118] S rfl ⟨by decide, by decide, rfl⟩ ⟨trivial, ⟨by first | assumption | rfl | decide | omega | exact Nat.succ_ne_zero _, by first | assumption | rfl | decide | omega | exact Nat.succ_ne_zero _⟩⟩ ?_
  refine tf_cV hx ftX3_hundredthsAt (nx := 8) (As := [.int (nI i)]) (rest := []) (st2 := [.int (nI (H i))]) (v_at hH hi) rfl lX3_56 (by first | assumption | rfl | decide) rfl ⟨rfl, by decide, by decide, by decide, rfl, rfl⟩ ?_
  exact tf_ret ftX3_hundredthsAt hR rfl ⟨by decide, by decide⟩ rfl rfl rfl

set_option maxHeartbeats 1000000 in
theorem t_timeBy {N : Nat} {S : tf_Sg} {K L : Nat → Nat} {n o : Nat} {H : Nat → Nat} {t : Nat} (hK : tf_sV (tf_GG N) S 121 40 n (fun j => tf_on 30 (K j))) (hkk : ∀ i, i < n → K i ≤ 30) (hL : tf_hn (tf_GG N) o) (hl : ∀ j, j < 6 → S (tf_rf (tf_GG N) o 0) j = nI (L j)) (h1 : tf_k1 (tf_GG N) S) (hH : tf_sV (tf_GG N) S 118 40 n (fun j => nI (H j))) (hh : ∀ i, i < n → H i ≤ 100) (l9 : ∀ j, j < 6 → L j ≤ 999) (ht : t < 2) : tf_Fn mX8_timeBy 5 0 0 (tf_GG N) S [.ref 120, .ref o, .ref 111, .int (nI t)] (tf_GG N) S (some (.int (nI (tf_tS L K H t n 0)))) := by
  refine tf_Fn_of (own := RX8) false ⟨by decide, rfl, by decide⟩ (Nat.le_of_ble_eq_true rfl) trivial (fun x hx hR => ?_)
  show tf_K x 0 0 (tf_GG N) S 0 [some (.ref 120), some (.ref o), some (.ref 111), some (.int (nI t)), none, none] []
  have hot := hL.1
  have n40 := hK.2.2.1
  refine tf_go hx ftX8_timeBy 4 [] 6 [some (.ref 120), some (.ref o), some (.ref 111), some (.int (nI t)), some (.int 0), some (.int 0)] [] S rfl ⟨by decide, by decide, rfl⟩ trivial ?_
  have loop : ∀ (m k : Nat) (y : Nat), k + m = n → (y + tf_tS L K H t m k = tf_tS L K H t n 0) → tf_K x 0 0 (tf_GG N) S 6 [some (.ref 120), some (.ref o), some (.ref 111), some (.int (nI t)), some (.int (nI y)), some (.int (nI k))] [] := by
    intro m
    induction m with
    | zero =>
      intro k y hk he
      refine tf_go hx ftX8_timeBy 3 [] 12 [some (.ref 120), some (.ref o), some (.ref 111), some (.int (nI t)), some (.int (nI y)), some (.int (nI k))] [.ref 121, .int (nI k)] S rfl ⟨by decide, by decide, rfl⟩ ⟨trivial, ⟨by first | assumption | rfl | decide | omega | exact Nat.succ_ne_zero _, by first | assumption | rfl | decide | omega | exact Nat.succ_ne_zero _⟩⟩ ?_
      refine tf_cV hx ftX8_timeBy (nx := 15) (As := []) (rest := [.int (nI k)]) (st2 := [.int (nI n), .int (nI k)]) (v_size hK) rfl lX8_27 (by first | assumption | rfl | decide) rfl ⟨rfl, by decide, by decide, by decide, rfl, rfl⟩ ?_
      refine tf_go hx ftX8_timeBy 2 [true] 66 [some (.ref 120), some (.ref o), some (.ref 111), some (.int (nI t)), some (.int (nI y)), some (.int (nI k))] [.int (nI y)] S rfl ⟨by decide, by decide, rfl⟩ ⟨trivial, (tf_leT (a := n) (b := k) rfl rfl (by omega) (by omega) (by omega))⟩ ?_
      exact tf_ret ftX8_timeBy hR rfl ⟨by decide, by decide⟩ rfl rfl (by rw [← he]; rfl)
    | succ m ih =>
      intro k y hk he
      rw [tf_tS_s] at he
      have b1 := tf_tS_le (t := t) l9 hkk hh n 0 (by omega)
      have b2 := tf_gL_le (t := t) l9 (tf_pr_le hkk (show k ≤ n by omega)) (hkk k (by omega))
      have b3 := hh k (by omega)
      have b4 := Nat.mul_le_mul b2 b3
      refine tf_go hx ftX8_timeBy 3 [] 12 [some (.ref 120), some (.ref o), some (.ref 111), some (.int (nI t)), some (.int (nI y)), some (.int (nI k))] [.ref 121, .int (nI k)] S rfl ⟨by decide, by decide, rfl⟩ ⟨trivial, ⟨by first | assumption | rfl | decide | omega | exact Nat.succ_ne_zero _, by first | assumption | rfl | decide | omega | exact Nat.succ_ne_zero _⟩⟩ ?_
      refine tf_cV hx ftX8_timeBy (nx := 15) (As := []) (rest := [.int (nI k)]) (st2 := [.int (nI n), .int (nI k)]) (v_size hK) rfl lX8_27 (by first | assumption | rfl | decide) rfl ⟨rfl, by decide, by decide, by decide, rfl, rfl⟩ ?_
      refine tf_go hx ftX8_timeBy 1 [false] 18 [some (.ref 120), some (.ref o), some (.ref 111), some (.int (nI t)), some (.int (nI y)), some (.int (nI k))] [] S rfl ⟨by decide, by decide, rfl⟩ ⟨trivial, (tf_leF (a := n) (b := k) rfl rfl (by omega) (by omega) (by omega))⟩ ?_
      refine tf_go hx ftX8_timeBy 7 [] 29 [some (.ref 120), some (.ref o), some (.ref 111), some (.int (nI t)), some (.int (nI y)), some (.int (nI k))] [.int ((nI k) - 1), .ref 121, .ref o, .int (nI y)] S rfl ⟨by decide, by decide, rfl⟩ ⟨trivial, ⟨by first | assumption | rfl | decide | omega | exact Nat.succ_ne_zero _, by first | assumption | rfl | decide | omega | exact Nat.succ_ne_zero _⟩⟩ ?_
      refine tf_cV hx ftX8_timeBy (nx := 32) (As := [.int ((nI k) - 1)]) (rest := [.ref o, .int (nI y)]) (st2 := [.int (tf_on 30 (tf_pr K k)), .ref o, .int (nI y)]) (v_prevK hK (show k ≤ n by omega)) rfl lX8_31 (by first | assumption | rfl | decide) rfl ⟨rfl, by decide, by decide, by decide, rfl, rfl⟩ ?_
      refine tf_go hx ftX8_timeBy 3 [] 38 [some (.ref 120), some (.ref o), some (.ref 111), some (.int (nI t)), some (.int (nI y)), some (.int (nI k))] [.int (nI k), .ref 121, .int (tf_on 30 (tf_pr K k)), .ref o, .int (nI y)] S rfl ⟨by decide, by decide, rfl⟩ ⟨trivial, ⟨by first | assumption | rfl | decide | omega | exact Nat.succ_ne_zero _, by first | assumption | rfl | decide | omega | exact Nat.succ_ne_zero _⟩⟩ ?_
      refine tf_cV hx ftX8_timeBy (nx := 41) (As := [.int (nI k)]) (rest := [.int (tf_on 30 (tf_pr K k)), .ref o, .int (nI y)]) (st2 := [.int (tf_on 30 (K k)), .int (tf_on 30 (tf_pr K k)), .ref o, .int (nI y)]) (v_at hK (show k < n by omega)) rfl lX8_31 (by first | assumption | rfl | decide) rfl ⟨rfl, by decide, by decide, by decide, rfl, rfl⟩ ?_
      refine tf_go hx ftX8_timeBy 1 [] 42 [some (.ref 120), some (.ref o), some (.ref 111), some (.int (nI t)), some (.int (nI y)), some (.int (nI k))] [.int (nI t), .int (tf_on 30 (K k)), .int (tf_on 30 (tf_pr K k)), .ref o, .int (nI y)] S rfl ⟨by decide, by decide, rfl⟩ trivial ?_
      refine tf_cV hx ftX8_timeBy (nx := 45) (As := [.int (tf_on 30 (tf_pr K k)), .int (tf_on 30 (K k)), .int (nI t)]) (rest := [.int (nI y)]) (st2 := [.int (nI (tf_gL L (tf_pr K k) (K k) t)), .int (nI y)]) (h_gapTo (tf_pr K k) (K k) t hL hl h1 (tf_pr_le hkk (by omega)) (hkk k (by omega)) ht) rfl lX8_47 (by first | assumption | rfl | decide) rfl ⟨rfl, by decide, by decide, by decide, rfl, rfl⟩ ?_
      refine tf_go hx ftX8_timeBy 2 [] 48 [some (.ref 120), some (.ref o), some (.ref 111), some (.int (nI t)), some (.int (nI y)), some (.int (nI k))] [.int (nI k), .ref 111, .int (nI (tf_gL L (tf_pr K k) (K k) t)), .int (nI y)] S rfl ⟨by decide, by decide, rfl⟩ trivial ?_
      refine tf_cV hx ftX8_timeBy (nx := 51) (As := [.int (nI k)]) (rest := [.int (nI (tf_gL L (tf_pr K k) (K k) t)), .int (nI y)]) (st2 := [.int (nI (H k)), .int (nI (tf_gL L (tf_pr K k) (K k) t)), .int (nI y)]) (t_hund hH (show k < n by omega)) rfl lX8_53 (by first | assumption | rfl | decide) rfl ⟨rfl, by decide, by decide, by decide, rfl, rfl⟩ ?_
      generalize tf_gL L (tf_pr K k) (K k) t = g at *
      refine tf_go hx ftX8_timeBy 1 [] 52 [some (.ref 120), some (.ref o), some (.ref 111), some (.int (nI t)), some (.int (nI y)), some (.int (nI k))] [.int ((nI g) * (nI (H k))), .int (nI y)] S rfl ⟨by decide, by decide, rfl⟩ trivial ?_
      rw [show ((nI g) * (nI (H k))) = nI (g * (H k)) from (tf_mul (a := g) (b := (H k)) rfl rfl)]
      refine tf_go hx ftX8_timeBy 2 [] 55 [some (.ref 120), some (.ref o), some (.ref 111), some (.int (nI t)), some (.int (nI y)), some (.int (nI k))] [.int ((nI (g * (H k))) / 100), .int (nI y)] S rfl ⟨by decide, by decide, rfl⟩ ⟨trivial, (by decide)⟩ ?_
      rw [show ((nI (g * (H k))) / 100) = nI ((g * (H k)) / 100) from (tf_div (a := (g * (H k))) (d := 100) rfl (rfl : (100 : Int32) = nI 100) (by omega) (by omega) (by omega))]
      refine tf_go hx ftX8_timeBy 2 [] 58 [some (.ref 120), some (.ref o), some (.ref 111), some (.int (nI t)), some (.int ((nI y) + (nI ((g * (H k)) / 100)))), some (.int (nI k))] [] S rfl ⟨by decide, by decide, rfl⟩ trivial ?_
      rw [show ((nI y) + (nI ((g * (H k)) / 100))) = nI (y + ((g * (H k)) / 100)) from (tf_add (a := y) (b := ((g * (H k)) / 100)) rfl rfl)]
      refine tf_go hx ftX8_timeBy 2 [] 6 [some (.ref 120), some (.ref o), some (.ref 111), some (.int (nI t)), some (.int (nI (y + ((g * (H k)) / 100)))), some (.int ((nI k) + 1))] [] S rfl ⟨by decide, by decide, rfl⟩ trivial ?_
      rw [show ((nI k) + 1) = nI (k + 1) from (tf_add (a := k) (b := 1) rfl (rfl : (1 : Int32) = nI 1))]
      exact ih (k + 1) (y + g * H k / 100) (by omega) (by omega)
  exact loop n 0 0 (by omega) (by omega)

theorem tf_onne {k a : Nat} (ha : a < 30) (h : k ≠ a) : tf_on 30 k ≠ nI a := by
  by_cases q : k < 30
  · rw [tf_on_y q]; exact fun e => h ((nI_eq (by omega) (by omega)).mp e)
  · rw [tf_on_n q]; exact fun e => tf_n9 (by omega) e.symm
theorem tf_neT {x y : Int32} {a b : Nat} (hx : x = nI a) (hy : y = nI b) (h : a ≠ b) (ha : a < 2147483648) (hb : b < 2147483648) : x ≠ y := tf_eqF hx hy h ha hb

set_option maxHeartbeats 1000000 in
theorem t_timeX {N : Nat} {S : tf_Sg} {K L : Nat → Nat} {n o : Nat} {H : Nat → Nat} {a c : Nat} (hK : tf_sV (tf_GG N) S 121 40 n (fun j => tf_on 30 (K j))) (hkk : ∀ i, i < n → K i ≤ 30) (hL : tf_hn (tf_GG N) o) (hl : ∀ j, j < 6 → S (tf_rf (tf_GG N) o 0) j = nI (L j)) (h1 : tf_k1 (tf_GG N) S) (hH : tf_sV (tf_GG N) S 118 40 n (fun j => nI (H j))) (hh : ∀ i, i < n → H i ≤ 100) (l9 : ∀ j, j < 6 → L j ≤ 999) (ha : a < 30) (hc : c < 30) : tf_Fn mX8_timeExchanged 5 0 0 (tf_GG N) S [.ref 120, .ref o, .ref 111, .int (nI a), .int (nI c)] (tf_GG N) S (some (.int (nI (tf_tS L (fun j => tf_xc a c (K j)) H 0 n 0)))) := by
  refine tf_Fn_of (own := RX8) false ⟨by decide, rfl, by decide⟩ (Nat.le_of_ble_eq_true rfl) trivial (fun x hx hR => ?_)
  show tf_K x 0 0 (tf_GG N) S 0 [some (.ref 120), some (.ref o), some (.ref 111), some (.int (nI a)), some (.int (nI c)), none, none, none, none] []
  have hot := hL.1
  have n40 := hK.2.2.1
  have hk2 : ∀ i, i < n → (fun j => tf_xc a c (K j)) i ≤ 30 := fun i hi => tf_xc_le ha hc (hkk i hi)
  refine tf_go hx ftX8_timeExchanged 6 [] 10 [some (.ref 120), some (.ref o), some (.ref 111), some (.int (nI a)), some (.int (nI c)), some (.int 0), some (.int (-9)), some (.int 0), none] [] S rfl ⟨by decide, by decide, rfl⟩ trivial ?_
  refine tf_fgt [some (.ref 120), some (.ref o), some (.ref 111), some (.int (nI a)), some (.int (nI c)), some (.int 0), some (.int (-9)), some (.int 0), none] (by simp [tf_lss]) ?_
  have loop : ∀ (m k : Nat) (y : Nat), k + m = n → (y + tf_tS L (fun j => tf_xc a c (K j)) H 0 m k = tf_tS L (fun j => tf_xc a c (K j)) H 0 n 0) → tf_K x 0 0 (tf_GG N) S 10 [some (.ref 120), some (.ref o), some (.ref 111), some (.int (nI a)), some (.int (nI c)), some (.int (nI y)), some (.int (tf_on 30 (tf_pr (fun j => tf_xc a c (K j)) k))), some (.int (nI k)), none] [] := by
    intro m
    induction m with
    | zero =>
      intro k y hk he
      refine tf_go hx ftX8_timeExchanged 3 [] 16 [some (.ref 120), some (.ref o), some (.ref 111), some (.int (nI a)), some (.int (nI c)), some (.int (nI y)), some (.int (tf_on 30 (tf_pr (fun j => tf_xc a c (K j)) k))), some (.int (nI k)), none] [.ref 121, .int (nI k)] S rfl ⟨by decide, by decide, rfl⟩ ⟨trivial, ⟨by first | assumption | rfl | decide | omega | exact Nat.succ_ne_zero _, by first | assumption | rfl | decide | omega | exact Nat.succ_ne_zero _⟩⟩ ?_
      refine tf_cV hx ftX8_timeExchanged (nx := 19) (As := []) (rest := [.int (nI k)]) (st2 := [.int (nI n), .int (nI k)]) (v_size hK) rfl lX8_27 (by first | assumption | rfl | decide) rfl ⟨rfl, by decide, by decide, by decide, rfl, rfl⟩ ?_
      refine tf_go hx ftX8_timeExchanged 2 [true] 92 [some (.ref 120), some (.ref o), some (.ref 111), some (.int (nI a)), some (.int (nI c)), some (.int (nI y)), some (.int (tf_on 30 (tf_pr (fun j => tf_xc a c (K j)) k))), some (.int (nI k)), none] [.int (nI y)] S rfl ⟨by decide, by decide, rfl⟩ ⟨trivial, (tf_leT (a := n) (b := k) rfl rfl (by omega) (by omega) (by omega))⟩ ?_
      exact tf_ret ftX8_timeExchanged hR rfl ⟨by decide, by decide⟩ rfl rfl (by rw [← he]; rfl)
    | succ m ih =>
      intro k y hk he
      rw [tf_tS_s] at he
      have b1 := tf_tS_le (t := 0) l9 hk2 hh n 0 (by omega)
      have b2 := tf_gL_le (t := 0) l9 (tf_pr_le hk2 (show k ≤ n by omega)) (hk2 k (by omega))
      have b3 := hh k (by omega)
      have b4 := Nat.mul_le_mul b2 b3
      have kle := hkk k (by omega)
      refine tf_go hx ftX8_timeExchanged 3 [] 16 [some (.ref 120), some (.ref o), some (.ref 111), some (.int (nI a)), some (.int (nI c)), some (.int (nI y)), some (.int (tf_on 30 (tf_pr (fun j => tf_xc a c (K j)) k))), some (.int (nI k)), none] [.ref 121, .int (nI k)] S rfl ⟨by decide, by decide, rfl⟩ ⟨trivial, ⟨by first | assumption | rfl | decide | omega | exact Nat.succ_ne_zero _, by first | assumption | rfl | decide | omega | exact Nat.succ_ne_zero _⟩⟩ ?_
      refine tf_cV hx ftX8_timeExchanged (nx := 19) (As := []) (rest := [.int (nI k)]) (st2 := [.int (nI n), .int (nI k)]) (v_size hK) rfl lX8_27 (by first | assumption | rfl | decide) rfl ⟨rfl, by decide, by decide, by decide, rfl, rfl⟩ ?_
      refine tf_go hx ftX8_timeExchanged 1 [false] 22 [some (.ref 120), some (.ref o), some (.ref 111), some (.int (nI a)), some (.int (nI c)), some (.int (nI y)), some (.int (tf_on 30 (tf_pr (fun j => tf_xc a c (K j)) k))), some (.int (nI k)), none] [] S rfl ⟨by decide, by decide, rfl⟩ ⟨trivial, (tf_leF (a := n) (b := k) rfl rfl (by omega) (by omega) (by omega))⟩ ?_
      refine tf_go hx ftX8_timeExchanged 3 [] 28 [some (.ref 120), some (.ref o), some (.ref 111), some (.int (nI a)), some (.int (nI c)), some (.int (nI y)), some (.int (tf_on 30 (tf_pr (fun j => tf_xc a c (K j)) k))), some (.int (nI k)), none] [.int (nI k), .ref 121] S rfl ⟨by decide, by decide, rfl⟩ ⟨trivial, ⟨by first | assumption | rfl | decide | omega | exact Nat.succ_ne_zero _, by first | assumption | rfl | decide | omega | exact Nat.succ_ne_zero _⟩⟩ ?_
      refine tf_cV hx ftX8_timeExchanged (nx := 31) (As := [.int (nI k)]) (rest := []) (st2 := [.int (tf_on 30 (K k))]) (v_at hK (show k < n by omega)) rfl lX8_31 (by first | assumption | rfl | decide) rfl ⟨rfl, by decide, by decide, by decide, rfl, rfl⟩ ?_
      refine tf_go hx ftX8_timeExchanged 1 [] 33 [some (.ref 120), some (.ref o), some (.ref 111), some (.int (nI a)), some (.int (nI c)), some (.int (nI y)), some (.int (tf_on 30 (tf_pr (fun j => tf_xc a c (K j)) k))), some (.int (nI k)), some (.int (tf_on 30 (K k)))] [] S rfl ⟨by decide, by decide, rfl⟩ trivial ?_
      have tail : tf_K x 0 0 (tf_GG N) S 56 [some (.ref 120), some (.ref o), some (.ref 111), some (.int (nI a)), some (.int (nI c)), some (.int (nI y)), some (.int (tf_on 30 (tf_pr (fun j => tf_xc a c (K j)) k))), some (.int (nI k)), some (.int (tf_on 30 (tf_xc a c (K k))))] [] := by
        refine tf_go hx ftX8_timeExchanged 5 [] 64 [some (.ref 120), some (.ref o), some (.ref 111), some (.int (nI a)), some (.int (nI c)), some (.int (nI y)), some (.int (tf_on 30 (tf_pr (fun j => tf_xc a c (K j)) k))), some (.int (nI k)), some (.int (tf_on 30 (tf_xc a c (K k))))] [.int 0, .int (tf_on 30 (tf_xc a c (K k))), .int (tf_on 30 (tf_pr (fun j => tf_xc a c (K j)) k)), .ref o, .int (nI y)] S rfl ⟨by decide, by decide, rfl⟩ trivial ?_
        refine tf_cV hx ftX8_timeExchanged (nx := 67) (As := [.int (tf_on 30 (tf_pr (fun j => tf_xc a c (K j)) k)), .int (tf_on 30 (tf_xc a c (K k))), .int 0]) (rest := [.int (nI y)]) (st2 := [.int (nI (tf_gL L (tf_pr (fun j => tf_xc a c (K j)) k) (tf_xc a c (K k)) 0)), .int (nI y)]) (h_gapTo (tf_pr (fun j => tf_xc a c (K j)) k) (tf_xc a c (K k)) 0 hL hl h1 (tf_pr_le hk2 (by omega)) (hk2 k (by omega)) (by decide)) rfl lX8_47 (by first | assumption | rfl | decide) rfl ⟨rfl, by decide, by decide, by decide, rfl, rfl⟩ ?_
        refine tf_go hx ftX8_timeExchanged 2 [] 70 [some (.ref 120), some (.ref o), some (.ref 111), some (.int (nI a)), some (.int (nI c)), some (.int (nI y)), some (.int (tf_on 30 (tf_pr (fun j => tf_xc a c (K j)) k))), some (.int (nI k)), some (.int (tf_on 30 (tf_xc a c (K k))))] [.int (nI k), .ref 111, .int (nI (tf_gL L (tf_pr (fun j => tf_xc a c (K j)) k) (tf_xc a c (K k)) 0)), .int (nI y)] S rfl ⟨by decide, by decide, rfl⟩ trivial ?_
        refine tf_cV hx ftX8_timeExchanged (nx := 73) (As := [.int (nI k)]) (rest := [.int (nI (tf_gL L (tf_pr (fun j => tf_xc a c (K j)) k) (tf_xc a c (K k)) 0)), .int (nI y)]) (st2 := [.int (nI (H k)), .int (nI (tf_gL L (tf_pr (fun j => tf_xc a c (K j)) k) (tf_xc a c (K k)) 0)), .int (nI y)]) (t_hund hH (show k < n by omega)) rfl lX8_53 (by first | assumption | rfl | decide) rfl ⟨rfl, by decide, by decide, by decide, rfl, rfl⟩ ?_
        have he2 : y + ((tf_gL L (tf_pr (fun j => tf_xc a c (K j)) k) (tf_xc a c (K k)) 0) * H k / 100 + tf_tS L (fun j => tf_xc a c (K j)) H 0 m (k + 1)) = tf_tS L (fun j => tf_xc a c (K j)) H 0 n 0 := he
        have b5 : (tf_gL L (tf_pr (fun j => tf_xc a c (K j)) k) (tf_xc a c (K k)) 0) * H k ≤ 12000 * 100 := b4
        generalize (tf_gL L (tf_pr (fun j => tf_xc a c (K j)) k) (tf_xc a c (K k)) 0) = g at *
        refine tf_go hx ftX8_timeExchanged 1 [] 74 [some (.ref 120), some (.ref o), some (.ref 111), some (.int (nI a)), some (.int (nI c)), some (.int (nI y)), some (.int (tf_on 30 (tf_pr (fun j => tf_xc a c (K j)) k))), some (.int (nI k)), some (.int (tf_on 30 (tf_xc a c (K k))))] [.int ((nI g) * (nI (H k))), .int (nI y)] S rfl ⟨by decide, by decide, rfl⟩ trivial ?_
        rw [show ((nI g) * (nI (H k))) = nI (g * (H k)) from (tf_mul (a := g) (b := (H k)) rfl rfl)]
        refine tf_go hx ftX8_timeExchanged 2 [] 77 [some (.ref 120), some (.ref o), some (.ref 111), some (.int (nI a)), some (.int (nI c)), some (.int (nI y)), some (.int (tf_on 30 (tf_pr (fun j => tf_xc a c (K j)) k))), some (.int (nI k)), some (.int (tf_on 30 (tf_xc a c (K k))))] [.int ((nI (g * (H k))) / 100), .int (nI y)] S rfl ⟨by decide, by decide, rfl⟩ ⟨trivial, (by decide)⟩ ?_
        rw [show ((nI (g * (H k))) / 100) = nI ((g * (H k)) / 100) from (tf_div (a := (g * (H k))) (d := 100) rfl (rfl : (100 : Int32) = nI 100) (by omega) (by omega) (by omega))]
        refine tf_go hx ftX8_timeExchanged 2 [] 80 [some (.ref 120), some (.ref o), some (.ref 111), some (.int (nI a)), some (.int (nI c)), some (.int ((nI y) + (nI ((g * (H k)) / 100)))), some (.int (tf_on 30 (tf_pr (fun j => tf_xc a c (K j)) k))), some (.int (nI k)), some (.int (tf_on 30 (tf_xc a c (K k))))] [] S rfl ⟨by decide, by decide, rfl⟩ trivial ?_
        rw [show ((nI y) + (nI ((g * (H k)) / 100))) = nI (y + ((g * (H k)) / 100)) from (tf_add (a := y) (b := ((g * (H k)) / 100)) rfl rfl)]
        refine tf_go hx ftX8_timeExchanged 4 [] 10 [some (.ref 120), some (.ref o), some (.ref 111), some (.int (nI a)), some (.int (nI c)), some (.int (nI (y + ((g * (H k)) / 100)))), some (.int (tf_on 30 (tf_xc a c (K k)))), some (.int ((nI k) + 1)), some (.int (tf_on 30 (tf_xc a c (K k))))] [] S rfl ⟨by decide, by decide, rfl⟩ trivial ?_
        rw [show ((nI k) + 1) = nI (k + 1) from (tf_add (a := k) (b := 1) rfl (rfl : (1 : Int32) = nI 1))]
        refine tf_fgt [some (.ref 120), some (.ref o), some (.ref 111), some (.int (nI a)), some (.int (nI c)), some (.int (nI (y + ((g * (H k)) / 100)))), some (.int (tf_on 30 (tf_xc a c (K k)))), some (.int (nI (k + 1))), none] (by simp [tf_lss]) ?_
        have h0 := ih (k + 1) (y + g * H k / 100) (by omega) (by omega)
        rw [tf_pr_s] at h0
        exact h0
      by_cases e1 : K k = a
      · rw [show tf_on 30 (K k) = nI a by rw [e1]; exact tf_on_y ha]
        refine tf_go hx ftX8_timeExchanged 3 [false] 39 [some (.ref 120), some (.ref o), some (.ref 111), some (.int (nI a)), some (.int (nI c)), some (.int (nI y)), some (.int (tf_on 30 (tf_pr (fun j => tf_xc a c (K j)) k))), some (.int (nI k)), some (.int (nI a))] [] S rfl ⟨by decide, by decide, rfl⟩ ⟨trivial, (tf_neF (a := a) (b := a) rfl rfl (by omega))⟩ ?_
        refine tf_go hx ftX8_timeExchanged 3 [] 56 [some (.ref 120), some (.ref o), some (.ref 111), some (.int (nI a)), some (.int (nI c)), some (.int (nI y)), some (.int (tf_on 30 (tf_pr (fun j => tf_xc a c (K j)) k))), some (.int (nI k)), some (.int (nI c))] [] S rfl ⟨by decide, by decide, rfl⟩ trivial ?_
        rw [show tf_on 30 (tf_xc a c (K k)) = nI c by unfold tf_xc; rw [if_pos e1]; exact tf_on_y hc] at tail
        exact tail
      · by_cases e2 : K k = c
        · rw [show tf_on 30 (K k) = nI c by rw [e2]; exact tf_on_y hc]
          refine tf_go hx ftX8_timeExchanged 3 [true] 46 [some (.ref 120), some (.ref o), some (.ref 111), some (.int (nI a)), some (.int (nI c)), some (.int (nI y)), some (.int (tf_on 30 (tf_pr (fun j => tf_xc a c (K j)) k))), some (.int (nI k)), some (.int (nI c))] [] S rfl ⟨by decide, by decide, rfl⟩ ⟨trivial, (tf_neT (a := c) (b := a) rfl rfl (by omega) (by omega) (by omega))⟩ ?_
          refine tf_go hx ftX8_timeExchanged 3 [false] 53 [some (.ref 120), some (.ref o), some (.ref 111), some (.int (nI a)), some (.int (nI c)), some (.int (nI y)), some (.int (tf_on 30 (tf_pr (fun j => tf_xc a c (K j)) k))), some (.int (nI k)), some (.int (nI c))] [] S rfl ⟨by decide, by decide, rfl⟩ ⟨trivial, (tf_neF (a := c) (b := c) rfl rfl (by omega))⟩ ?_
          refine tf_go hx ftX8_timeExchanged 2 [] 56 [some (.ref 120), some (.ref o), some (.ref 111), some (.int (nI a)), some (.int (nI c)), some (.int (nI y)), some (.int (tf_on 30 (tf_pr (fun j => tf_xc a c (K j)) k))), some (.int (nI k)), some (.int (nI a))] [] S rfl ⟨by decide, by decide, rfl⟩ trivial ?_
          rw [show tf_on 30 (tf_xc a c (K k)) = nI a by unfold tf_xc; rw [if_neg e1, if_pos e2]; exact tf_on_y ha] at tail
          exact tail
        · have ex : tf_xc a c (K k) = K k := by unfold tf_xc; rw [if_neg e1, if_neg e2]
          rw [ex] at tail
          have n1 : tf_on 30 (K k) ≠ nI a := tf_onne (by omega) e1
          have n2 : tf_on 30 (K k) ≠ nI c := tf_onne (by omega) e2
          refine tf_go hx ftX8_timeExchanged 3 [true] 46 [some (.ref 120), some (.ref o), some (.ref 111), some (.int (nI a)), some (.int (nI c)), some (.int (nI y)), some (.int (tf_on 30 (tf_pr (fun j => tf_xc a c (K j)) k))), some (.int (nI k)), some (.int (tf_on 30 (K k)))] [] S rfl ⟨by decide, by decide, rfl⟩ ⟨trivial, n1⟩ ?_
          refine tf_go hx ftX8_timeExchanged 3 [true] 56 [some (.ref 120), some (.ref o), some (.ref 111), some (.int (nI a)), some (.int (nI c)), some (.int (nI y)), some (.int (tf_on 30 (tf_pr (fun j => tf_xc a c (K j)) k))), some (.int (nI k)), some (.int (tf_on 30 (K k)))] [] S rfl ⟨by decide, by decide, rfl⟩ ⟨trivial, n2⟩ ?_
          exact tail
  exact loop n 0 0 (by omega) (by omega)

