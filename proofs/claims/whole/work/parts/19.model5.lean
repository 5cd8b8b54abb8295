def tX11_keyOf : tf_T := [(0, .iload_n 1, 1, 0, 0),
  (1, .invokestatic 40, 4, 0, 0),
  (4, .ifCond .eq 21, 7, 25, 0),
  (7, .iload_n 2, 8, 0, 0),
  (8, .bipush 26, 10, 0, 26),
  (10, .invokestatic 22, 13, 0, 0),
  (13, .ifCond .eq 12, 16, 25, 0),
  (16, .aload_n 0, 17, 0, 0),
  (17, .iload_n 1, 18, 0, 0),
  (18, .iload_n 2, 19, 0, 0),
  (19, .invokevirtual 51, 22, 0, 0),
  (22, .goto 8, 25, 30, 0),
  (25, .aload_n 0, 26, 0, 0),
  (26, .iconst (-1), 27, 0, (-1)),
  (27, .invokevirtual 26, 30, 0, 0),
  (30, .ireturn, 31, 0, 0)]
set_option maxRecDepth 100000 in
theorem okX11_keyOf : tf_okT cX11_keyOf tX11_keyOf := by unfold tf_okT; decide +kernel
theorem ftX11_keyOf : 1 ≤ 3 ∧ tf_okF RX11 fX11 ∧ tf_okT cX11_keyOf tX11_keyOf := ⟨by decide, okfX11, okX11_keyOf⟩
def mX11_keyOf : tf_M := (yX11_keyOf, cX11_keyOf, 3, (some .int))

def tX11_letterOn : tf_T := [(0, .iload_n 1, 1, 0, 0),
  (1, .invokestatic 40, 4, 0, 0),
  (4, .ifCond .eq 10, 7, 14, 0),
  (7, .iload_n 2, 8, 0, 0),
  (8, .invokestatic 55, 11, 0, 0),
  (11, .ifCond .ne 11, 14, 22, 0),
  (14, .aload_n 0, 15, 0, 0),
  (15, .iconst (-1), 16, 0, (-1)),
  (16, .invokevirtual 26, 19, 0, 0),
  (19, .goto 35, 22, 54, 0),
  (22, .aload_n 0, 23, 0, 0),
  (23, .getfield 13, 26, 0, 0),
  (26, .bipush 30, 28, 0, 30),
  (28, .iload_n 1, 29, 0, 0),
  (29, .imul, 30, 0, 0),
  (30, .iload_n 2, 31, 0, 0),
  (31, .iadd, 32, 0, 0),
  (32, .iaload, 33, 0, 0),
  (33, .ifCond .ne 8, 36, 41, 0),
  (36, .bipush (-9), 38, 0, (-9)),
  (38, .goto 16, 41, 54, 0),
  (41, .aload_n 0, 42, 0, 0),
  (42, .getfield 13, 45, 0, 0),
  (45, .bipush 30, 47, 0, 30),
  (47, .iload_n 1, 48, 0, 0),
  (48, .imul, 49, 0, 0),
  (49, .iload_n 2, 50, 0, 0),
  (50, .iadd, 51, 0, 0),
  (51, .iaload, 52, 0, 0),
  (52, .iconst 1, 53, 0, 1),
  (53, .isub, 54, 0, 0),
  (54, .ireturn, 55, 0, 0)]
set_option maxRecDepth 100000 in
theorem okX11_letterOn : tf_okT cX11_letterOn tX11_letterOn := by unfold tf_okT; decide +kernel
theorem ftX11_letterOn : 1 ≤ 3 ∧ tf_okF RX11 fX11 ∧ tf_okT cX11_letterOn tX11_letterOn := ⟨by decide, okfX11, okX11_letterOn⟩
def mX11_letterOn : tf_M := (yX11_letterOn, cX11_letterOn, 3, (some .int))

def tX11_fingerOf : tf_T := [(0, .iload_n 1, 1, 0, 0),
  (1, .invokestatic 55, 4, 0, 0),
  (4, .ifCond .eq 11, 7, 15, 0),
  (7, .iload_n 1, 8, 0, 0),
  (8, .iload_n 2, 9, 0, 0),
  (9, .invokestatic 58, 12, 0, 0),
  (12, .goto 8, 15, 20, 0),
  (15, .aload_n 0, 16, 0, 0),
  (16, .iconst (-1), 17, 0, (-1)),
  (17, .invokevirtual 26, 20, 0, 0),
  (20, .ireturn, 21, 0, 0)]
set_option maxRecDepth 100000 in
theorem okX11_fingerOf : tf_okT cX11_fingerOf tX11_fingerOf := by unfold tf_okT; decide +kernel
theorem ftX11_fingerOf : 1 ≤ 3 ∧ tf_okF RX11 fX11 ∧ tf_okT cX11_fingerOf tX11_fingerOf := ⟨by decide, okfX11, okX11_fingerOf⟩
def mX11_fingerOf : tf_M := (yX11_fingerOf, cX11_fingerOf, 3, (some .int))

def tX11_law : tf_T := [(0, .iload_n 1, 1, 0, 0),
  (1, .invokestatic 62, 4, 0, 0),
  (4, .ifCond .eq 23, 7, 27, 0),
  (7, .iload_n 2, 8, 0, 0),
  (8, .bipush 6, 10, 0, 6),
  (10, .invokestatic 22, 13, 0, 0),
  (13, .ifCond .eq 14, 16, 27, 0),
  (16, .iload_n 3, 17, 0, 0),
  (17, .iconst 0, 18, 0, 0),
  (18, .sipush 999, 21, 0, 999),
  (21, .invokestatic 65, 24, 0, 0),
  (24, .goto 4, 27, 28, 0),
  (27, .iconst (-1), 28, 0, (-1)),
  (28, .istore 4, 30, 0, 0),
  (30, .iload 4, 32, 0, 0),
  (32, .ifCond .eq 10, 35, 42, 0),
  (35, .aload_n 0, 36, 0, 0),
  (36, .iload 4, 38, 0, 0),
  (38, .invokevirtual 26, 41, 0, 0),
  (41, .ireturn, 42, 0, 0),
  (42, .aload_n 0, 43, 0, 0),
  (43, .getfield 13, 46, 0, 0),
  (46, .bipush 120, 48, 0, 120),
  (48, .bipush 6, 50, 0, 6),
  (50, .iload_n 1, 51, 0, 0),
  (51, .imul, 52, 0, 0),
  (52, .iadd, 53, 0, 0),
  (53, .iload_n 2, 54, 0, 0),
  (54, .iadd, 55, 0, 0),
  (55, .iaload, 56, 0, 0),
  (56, .istore 5, 58, 0, 0),
  (58, .aload_n 0, 59, 0, 0),
  (59, .getfield 13, 62, 0, 0),
  (62, .bipush 120, 64, 0, 120),
  (64, .bipush 6, 66, 0, 6),
  (66, .iload_n 1, 67, 0, 0),
  (67, .imul, 68, 0, 0),
  (68, .iadd, 69, 0, 0),
  (69, .iload_n 2, 70, 0, 0),
  (70, .iadd, 71, 0, 0),
  (71, .iload_n 3, 72, 0, 0),
  (72, .iastore, 73, 0, 0),
  (73, .iload 5, 75, 0, 0),
  (75, .ireturn, 76, 0, 0)]
set_option maxRecDepth 100000 in
theorem okX11_law : tf_okT cX11_law tX11_law := by unfold tf_okT; decide +kernel
theorem ftX11_law : 1 ≤ 3 ∧ tf_okF RX11 fX11 ∧ tf_okT cX11_law tX11_law := ⟨by decide, okfX11, okX11_law⟩
def mX11_law : tf_M := (yX11_law, cX11_law, 6, (some .int))

def tX11_gap : tf_T := [(0, .iload_n 1, 1, 0, 0),
  (1, .invokestatic 62, 4, 0, 0),
  (4, .ifCond .eq 37, 7, 41, 0),
  (7, .iload_n 2, 8, 0, 0),
  (8, .invokestatic 40, 11, 0, 0),
  (11, .ifCond .eq 30, 14, 41, 0),
  (14, .iload_n 3, 15, 0, 0),
  (15, .invokestatic 55, 18, 0, 0),
  (18, .ifCond .eq 23, 21, 41, 0),
  (21, .iload 4, 23, 0, 0),
  (23, .invokestatic 55, 26, 0, 0),
  (26, .ifCond .eq 15, 29, 41, 0),
  (29, .aload_n 0, 30, 0, 0),
  (30, .iload_n 1, 31, 0, 0),
  (31, .iload_n 3, 32, 0, 0),
  (32, .iload 4, 34, 0, 0),
  (34, .iconst 0, 35, 0, 0),
  (35, .invokevirtual 76, 38, 0, 0),
  (38, .goto 8, 41, 46, 0),
  (41, .aload_n 0, 42, 0, 0),
  (42, .iconst (-1), 43, 0, (-1)),
  (43, .invokevirtual 26, 46, 0, 0),
  (46, .ireturn, 47, 0, 0)]
set_option maxRecDepth 100000 in
theorem okX11_gap : tf_okT cX11_gap tX11_gap := by unfold tf_okT; decide +kernel
theorem ftX11_gap : 1 ≤ 4 ∧ tf_okF RX11 fX11 ∧ tf_okT cX11_gap tX11_gap := ⟨by decide, okfX11, okX11_gap⟩
def mX11_gap : tf_M := (yX11_gap, cX11_gap, 5, (some .int))

def tX11_sign : tf_T := [(0, .iload_n 2, 1, 0, 0),
  (1, .aload_n 0, 2, 0, 0),
  (2, .getfield 13, 5, 0, 0),
  (5, .iload_n 1, 6, 0, 0),
  (6, .ifCond .eq 9, 9, 15, 0),
  (9, .sipush 364, 12, 0, 364),
  (12, .goto 6, 15, 18, 0),
  (15, .sipush 365, 18, 0, 365),
  (18, .iaload, 19, 0, 0),
  (19, .invokestatic 22, 22, 0, 0),
  (22, .ifCond .eq 26, 25, 48, 0),
  (25, .aload_n 0, 26, 0, 0),
  (26, .getfield 13, 29, 0, 0),
  (29, .iload_n 1, 30, 0, 0),
  (30, .ifCond .eq 9, 33, 39, 0),
  (33, .sipush 144, 36, 0, 144),
  (36, .goto 6, 39, 42, 0),
  (39, .sipush 184, 42, 0, 184),
  (42, .iload_n 2, 43, 0, 0),
  (43, .iadd, 44, 0, 0),
  (44, .iaload, 45, 0, 0),
  (45, .goto 5, 48, 50, 0),
  (48, .bipush (-9), 50, 0, (-9)),
  (50, .ireturn, 51, 0, 0)]
set_option maxRecDepth 100000 in
theorem okX11_sign : tf_okT cX11_sign tX11_sign := by unfold tf_okT; decide +kernel
theorem ftX11_sign : 1 ≤ 2 ∧ tf_okF RX11 fX11 ∧ tf_okT cX11_sign tX11_sign := ⟨by decide, okfX11, okX11_sign⟩
def mX11_sign : tf_M := (yX11_sign, cX11_sign, 3, (some .int))

def tX11_practise : tf_T := [(0, .iload_n 1, 1, 0, 0),
  (1, .aload_n 0, 2, 0, 0),
  (2, .getfield 13, 5, 0, 0),
  (5, .sipush 366, 8, 0, 366),
  (8, .iaload, 9, 0, 0),
  (9, .invokestatic 22, 12, 0, 0),
  (12, .ifCond .eq 14, 15, 26, 0),
  (15, .iload_n 2, 16, 0, 0),
  (16, .iconst 1, 17, 0, 1),
  (17, .sipush 999, 20, 0, 999),
  (20, .invokestatic 65, 23, 0, 0),
  (23, .goto 4, 26, 27, 0),
  (26, .iconst (-1), 27, 0, (-1)),
  (27, .istore_n 3, 28, 0, 0),
  (28, .iload_n 3, 29, 0, 0),
  (29, .ifCond .eq 9, 32, 38, 0),
  (32, .aload_n 0, 33, 0, 0),
  (33, .iload_n 3, 34, 0, 0),
  (34, .invokevirtual 26, 37, 0, 0),
  (37, .ireturn, 38, 0, 0),
  (38, .sipush 224, 41, 0, 224),
  (41, .bipush 10, 43, 0, 10),
  (43, .iload_n 1, 44, 0, 0),
  (44, .imul, 45, 0, 0),
  (45, .iadd, 46, 0, 0),
  (46, .iconst 1, 47, 0, 1),
  (47, .iadd, 48, 0, 0),
  (48, .istore 4, 50, 0, 0),
  (50, .aload_n 0, 51, 0, 0),
  (51, .getfield 13, 54, 0, 0),
  (54, .iload 4, 56, 0, 0),
  (56, .aload_n 0, 57, 0, 0),
  (57, .getfield 13, 60, 0, 0),
  (60, .iload 4, 62, 0, 0),
  (62, .iaload, 63, 0, 0),
  (63, .iload_n 2, 64, 0, 0),
  (64, .iadd, 65, 0, 0),
  (65, .sipush 9999, 68, 0, 9999),
  (68, .if_icmp .le 9, 71, 77, 0),
  (71, .sipush 9999, 74, 0, 9999),
  (74, .goto 12, 77, 86, 0),
  (77, .aload_n 0, 78, 0, 0),
  (78, .getfield 13, 81, 0, 0),
  (81, .iload 4, 83, 0, 0),
  (83, .iaload, 84, 0, 0),
  (84, .iload_n 2, 85, 0, 0),
  (85, .iadd, 86, 0, 0),
  (86, .iastore, 87, 0, 0),
  (87, .aload_n 0, 88, 0, 0),
  (88, .getfield 13, 91, 0, 0),
  (91, .iload 4, 93, 0, 0),
  (93, .iaload, 94, 0, 0),
  (94, .ireturn, 95, 0, 0)]
set_option maxRecDepth 100000 in
theorem okX11_practise : tf_okT cX11_practise tX11_practise := by unfold tf_okT; decide +kernel
theorem ftX11_practise : 1 ≤ 2 ∧ tf_okF RX11 fX11 ∧ tf_okT cX11_practise tX11_practise := ⟨by decide, okfX11, okX11_practise⟩
def mX11_practise : tf_M := (yX11_practise, cX11_practise, 5, (some .int))

def tX11_time : tf_T := [(0, .iload_n 1, 1, 0, 0),
  (1, .invokestatic 62, 4, 0, 0),
  (4, .ifCond .eq 20, 7, 24, 0),
  (7, .iload_n 2, 8, 0, 0),
  (8, .invokestatic 40, 11, 0, 0),
  (11, .ifCond .eq 13, 14, 24, 0),
  (14, .aload_n 0, 15, 0, 0),
  (15, .iload_n 1, 16, 0, 0),
  (16, .iload_n 2, 17, 0, 0),
  (17, .iload_n 3, 18, 0, 0),
  (18, .invokevirtual 92, 21, 0, 0),
  (21, .goto 8, 24, 29, 0),
  (24, .aload_n 0, 25, 0, 0),
  (25, .iconst (-1), 26, 0, (-1)),
  (26, .invokevirtual 26, 29, 0, 0),
  (29, .ireturn, 30, 0, 0)]
set_option maxRecDepth 100000 in
theorem okX11_time : tf_okT cX11_time tX11_time := by unfold tf_okT; decide +kernel
theorem ftX11_time : 1 ≤ 6 ∧ tf_okF RX11 fX11 ∧ tf_okT cX11_time tX11_time := ⟨by decide, okfX11, okX11_time⟩
def mX11_time : tf_M := (yX11_time, cX11_time, 4, (some .int))

def tX11_where : tf_T := [(0, .iload_n 1, 1, 0, 0),
  (1, .invokestatic 40, 4, 0, 0),
  (4, .ifCond .ne 9, 7, 13, 0),
  (7, .aload_n 0, 8, 0, 0),
  (8, .iconst (-1), 9, 0, (-1)),
  (9, .invokevirtual 26, 12, 0, 0),
  (12, .ireturn, 13, 0, 0),
  (13, .iload_n 2, 14, 0, 0),
  (14, .bipush 8, 16, 0, 8),
  (16, .invokestatic 22, 19, 0, 0),
  (19, .ifCond .eq 12, 22, 31, 0),
  (22, .aload_n 0, 23, 0, 0),
  (23, .iload_n 1, 24, 0, 0),
  (24, .iload_n 2, 25, 0, 0),
  (25, .invokevirtual 116, 28, 0, 0),
  (28, .goto 9, 31, 37, 0),
  (31, .aload_n 0, 32, 0, 0),
  (32, .bipush (-2), 34, 0, (-2)),
  (34, .invokevirtual 26, 37, 0, 0),
  (37, .ireturn, 38, 0, 0)]
set_option maxRecDepth 100000 in
theorem okX11_where : tf_okT cX11_where tX11_where := by unfold tf_okT; decide +kernel
theorem ftX11_where : 1 ≤ 4 ∧ tf_okF RX11 fX11 ∧ tf_okT cX11_where tX11_where := ⟨by decide, okfX11, okX11_where⟩
def mX11_where : tf_M := (yX11_where, cX11_where, 3, (some .int))

def tX11_exchange : tf_T := [(0, .iload_n 1, 1, 0, 0),
  (1, .invokestatic 40, 4, 0, 0),
  (4, .ifCond .eq 22, 7, 26, 0),
  (7, .iload_n 2, 8, 0, 0),
  (8, .invokestatic 55, 11, 0, 0),
  (11, .ifCond .eq 15, 14, 26, 0),
  (14, .iload_n 3, 15, 0, 0),
  (15, .invokestatic 55, 18, 0, 0),
  (18, .ifCond .eq 8, 21, 26, 0),
  (21, .iload_n 2, 22, 0, 0),
  (22, .iload_n 3, 23, 0, 0),
  (23, .if_icmp .ne 9, 26, 32, 0),
  (26, .aload_n 0, 27, 0, 0),
  (27, .iconst (-1), 28, 0, (-1)),
  (28, .invokevirtual 26, 31, 0, 0),
  (31, .ireturn, 32, 0, 0),
  (32, .aload_n 0, 33, 0, 0),
  (33, .iload_n 1, 34, 0, 0),
  (34, .iload_n 2, 35, 0, 0),
  (35, .iload_n 3, 36, 0, 0),
  (36, .invokevirtual 119, 39, 0, 0),
  (39, .iconst 1, 40, 0, 1),
  (40, .ireturn, 41, 0, 0)]
set_option maxRecDepth 100000 in
theorem okX11_exchange : tf_okT cX11_exchange tX11_exchange := by unfold tf_okT; decide +kernel
theorem ftX11_exchange : 1 ≤ 3 ∧ tf_okF RX11 fX11 ∧ tf_okT cX11_exchange tX11_exchange := ⟨by decide, okfX11, okX11_exchange⟩
def mX11_exchange : tf_M := (yX11_exchange, cX11_exchange, 4, (some .int))

def tX11_better : tf_T := [(0, .iload_n 1, 1, 0, 0),
  (1, .invokestatic 62, 4, 0, 0),
  (4, .ifCond .eq 19, 7, 23, 0),
  (7, .iload_n 2, 8, 0, 0),
  (8, .invokestatic 40, 11, 0, 0),
  (11, .ifCond .eq 12, 14, 23, 0),
  (14, .aload_n 0, 15, 0, 0),
  (15, .iload_n 1, 16, 0, 0),
  (16, .iload_n 2, 17, 0, 0),
  (17, .invokevirtual 123, 20, 0, 0),
  (20, .goto 8, 23, 28, 0),
  (23, .aload_n 0, 24, 0, 0),
  (24, .iconst (-1), 25, 0, (-1)),
  (25, .invokevirtual 26, 28, 0, 0),
  (28, .ireturn, 29, 0, 0)]
set_option maxRecDepth 100000 in
theorem okX11_better : tf_okT cX11_better tX11_better := by unfold tf_okT; decide +kernel
theorem ftX11_better : 1 ≤ 7 ∧ tf_okF RX11 fX11 ∧ tf_okT cX11_better tX11_better := ⟨by decide, okfX11, okX11_better⟩
def mX11_better : tf_M := (yX11_better, cX11_better, 3, (some .int))

def tX11_far : tf_T := [(0, .iload_n 1, 1, 0, 0),
  (1, .invokestatic 62, 4, 0, 0),
  (4, .ifCond .eq 19, 7, 23, 0),
  (7, .iload_n 2, 8, 0, 0),
  (8, .invokestatic 40, 11, 0, 0),
  (11, .ifCond .eq 12, 14, 23, 0),
  (14, .aload_n 0, 15, 0, 0),
  (15, .iload_n 1, 16, 0, 0),
  (16, .iload_n 2, 17, 0, 0),
  (17, .invokevirtual 126, 20, 0, 0),
  (20, .goto 8, 23, 28, 0),
  (23, .aload_n 0, 24, 0, 0),
  (24, .iconst (-1), 25, 0, (-1)),
  (25, .invokevirtual 26, 28, 0, 0),
  (28, .ireturn, 29, 0, 0)]
set_option maxRecDepth 100000 in
theorem okX11_far : tf_okT cX11_far tX11_far := by unfold tf_okT; decide +kernel
theorem ftX11_far : 1 ≤ 6 ∧ tf_okF RX11 fX11 ∧ tf_okT cX11_far tX11_far := ⟨by decide, okfX11, okX11_far⟩
def mX11_far : tf_M := (yX11_far, cX11_far, 3, (some .int))

def tX11_pace : tf_T := [(0, .iload_n 1, 1, 0, 0),
  (1, .invokestatic 62, 4, 0, 0),
  (4, .ifCond .eq 10, 7, 14, 0),
  (7, .iload_n 2, 8, 0, 0),
  (8, .invokestatic 40, 11, 0, 0),
  (11, .ifCond .ne 9, 14, 20, 0),
  (14, .aload_n 0, 15, 0, 0),
  (15, .iconst (-1), 16, 0, (-1)),
  (16, .invokevirtual 26, 19, 0, 0),
  (19, .ireturn, 20, 0, 0),
  (20, .iload_n 3, 21, 0, 0),
  (21, .iconst 1, 22, 0, 1),
  (22, .if_icmp .lt 8, 25, 30, 0),
  (25, .iload 4, 27, 0, 0),
  (27, .ifCond .ge 10, 30, 37, 0),
  (30, .aload_n 0, 31, 0, 0),
  (31, .bipush (-4), 33, 0, (-4)),
  (33, .invokevirtual 26, 36, 0, 0),
  (36, .ireturn, 37, 0, 0),
  (37, .iload_n 3, 38, 0, 0),
  (38, .bipush 9, 40, 0, 9),
  (40, .if_icmp .gt 11, 43, 51, 0),
  (43, .iload 4, 45, 0, 0),
  (45, .sipush 9999, 48, 0, 9999),
  (48, .if_icmp .le 12, 51, 60, 0),
  (51, .aload_n 0, 52, 0, 0),
  (52, .bipush (-6), 54, 0, (-6)),
  (54, .invokevirtual 26, 57, 0, 0),
  (57, .goto 12, 60, 69, 0),
  (60, .aload_n 0, 61, 0, 0),
  (61, .iload_n 1, 62, 0, 0),
  (62, .iload_n 2, 63, 0, 0),
  (63, .iload_n 3, 64, 0, 0),
  (64, .iload 4, 66, 0, 0),
  (66, .invokevirtual 132, 69, 0, 0),
  (69, .ireturn, 70, 0, 0)]
set_option maxRecDepth 100000 in
theorem okX11_pace : tf_okT cX11_pace tX11_pace := by unfold tf_okT; decide +kernel
theorem ftX11_pace : 1 ≤ 7 ∧ tf_okF RX11 fX11 ∧ tf_okT cX11_pace tX11_pace := ⟨by decide, okfX11, okX11_pace⟩
def mX11_pace : tf_M := (yX11_pace, cX11_pace, 5, (some .int))

def tX11_put : tf_T := [(0, .iload_n 1, 1, 0, 0),
  (1, .iconst 0, 2, 0, 0),
  (2, .sipush 9999, 5, 0, 9999),
  (5, .invokestatic 65, 8, 0, 0),
  (8, .istore_n 2, 9, 0, 0),
  (9, .iload_n 2, 10, 0, 0),
  (10, .ifCond .ne 19, 13, 29, 0),
  (13, .aload_n 0, 14, 0, 0),
  (14, .getfield 13, 17, 0, 0),
  (17, .sipush 367, 20, 0, 367),
  (20, .iaload, 21, 0, 0),
  (21, .bipush 40, 23, 0, 40),
  (23, .if_icmp .ne 6, 26, 29, 0),
  (26, .bipush (-6), 28, 0, (-6)),
  (28, .istore_n 2, 29, 0, 0),
  (29, .iload_n 2, 30, 0, 0),
  (30, .ifCond .eq 9, 33, 39, 0),
  (33, .aload_n 0, 34, 0, 0),
  (34, .iload_n 2, 35, 0, 0),
  (35, .invokevirtual 26, 38, 0, 0),
  (38, .ireturn, 39, 0, 0),
  (39, .aload_n 0, 40, 0, 0),
  (40, .getfield 13, 43, 0, 0),
  (43, .sipush 324, 46, 0, 324),
  (46, .aload_n 0, 47, 0, 0),
  (47, .getfield 13, 50, 0, 0),
  (50, .sipush 367, 53, 0, 367),
  (53, .iaload, 54, 0, 0),
  (54, .iadd, 55, 0, 0),
  (55, .iload_n 1, 56, 0, 0),
  (56, .iastore, 57, 0, 0),
  (57, .aload_n 0, 58, 0, 0),
  (58, .getfield 13, 61, 0, 0),
  (61, .sipush 367, 64, 0, 367),
  (64, .dup2, 65, 0, 0),
  (65, .iaload, 66, 0, 0),
  (66, .iconst 1, 67, 0, 1),
  (67, .iadd, 68, 0, 0),
  (68, .iastore, 69, 0, 0),
  (69, .aload_n 0, 70, 0, 0),
  (70, .getfield 13, 73, 0, 0),
  (73, .sipush 367, 76, 0, 367),
  (76, .iaload, 77, 0, 0),
  (77, .ireturn, 78, 0, 0)]
set_option maxRecDepth 100000 in
theorem okX11_put : tf_okT cX11_put tX11_put := by unfold tf_okT; decide +kernel
theorem ftX11_put : 1 ≤ 2 ∧ tf_okF RX11 fX11 ∧ tf_okT cX11_put tX11_put := ⟨by decide, okfX11, okX11_put⟩
def mX11_put : tf_M := (yX11_put, cX11_put, 3, (some .int))

def tX11_unput : tf_T := [(0, .aload_n 0, 1, 0, 0),
  (1, .getfield 13, 4, 0, 0),
  (4, .sipush 367, 7, 0, 367),
  (7, .iaload, 8, 0, 0),
  (8, .istore_n 1, 9, 0, 0),
  (9, .aload_n 0, 10, 0, 0),
  (10, .getfield 13, 13, 0, 0),
  (13, .sipush 367, 16, 0, 367),
  (16, .iconst 0, 17, 0, 0),
  (17, .iastore, 18, 0, 0),
  (18, .iload_n 1, 19, 0, 0),
  (19, .ireturn, 20, 0, 0)]
set_option maxRecDepth 100000 in
theorem okX11_unput : tf_okT cX11_unput tX11_unput := by unfold tf_okT; decide +kernel
theorem ftX11_unput : 1 ≤ 1 ∧ tf_okF RX11 fX11 ∧ tf_okT cX11_unput tX11_unput := ⟨by decide, okfX11, okX11_unput⟩
def mX11_unput : tf_M := (yX11_unput, cX11_unput, 2, (some .int))

set_option maxRecDepth 100000 in
theorem lX11_40 : tf_okS RX11 40 1 mX11_isBoard := by unfold tf_okS tf_okL; decide +kernel

set_option maxRecDepth 100000 in
theorem lX11_55 : tf_okS RX11 55 1 mX11_isKey := by unfold tf_okS tf_okL; decide +kernel

set_option maxRecDepth 100000 in
theorem lX11_62 : tf_okS RX11 62 1 mX11_isHand := by unfold tf_okS tf_okL; decide +kernel

set_option maxRecDepth 100000 in
theorem lX11_65 : tf_okS RX11 65 3 mX11_within := by unfold tf_okS tf_okL; decide +kernel

set_option maxRecDepth 100000 in
theorem lX11_116 : tf_okV RX11 116 2 8 mX11_whereOf := by unfold tf_okV tf_okL; decide +kernel

set_option maxRecDepth 100000 in
theorem lX11_123 : tf_okV RX11 123 2 8 mX11_betterOf := by unfold tf_okV tf_okL; decide +kernel

set_option maxRecDepth 100000 in
theorem lX11_126 : tf_okV RX11 126 2 8 mX11_farOf := by unfold tf_okV tf_okL; decide +kernel

set_option maxRecDepth 100000 in
theorem lX11_132 : tf_okV RX11 132 4 8 mX11_paceOf := by unfold tf_okV tf_okL; decide +kernel

theorem m_ref1 {G : tf_G} {S : tf_Sg} {o : Nat} (ho : tf_mo G o) : tf_Fn mX11_refuse 1 0 0 G S [.ref o, .int (-1)] G (tf_rfS G S o 1) (some (.int (-1))) := m_refuse (-1) ho (by unfold vp_in; decide)

theorem m_ref2 {G : tf_G} {S : tf_Sg} {o : Nat} (ho : tf_mo G o) : tf_Fn mX11_refuse 1 0 0 G S [.ref o, .int (-2)] G (tf_rfS G S o 2) (some (.int (-2))) := m_refuse (-2) ho (by unfold vp_in; decide)

theorem m_ref3 {G : tf_G} {S : tf_Sg} {o : Nat} (ho : tf_mo G o) : tf_Fn mX11_refuse 1 0 0 G S [.ref o, .int (-3)] G (tf_rfS G S o 3) (some (.int (-3))) := m_refuse (-3) ho (by unfold vp_in; decide)

theorem m_ref4 {G : tf_G} {S : tf_Sg} {o : Nat} (ho : tf_mo G o) : tf_Fn mX11_refuse 1 0 0 G S [.ref o, .int (-4)] G (tf_rfS G S o 4) (some (.int (-4))) := m_refuse (-4) ho (by unfold vp_in; decide)

theorem m_ref6 {G : tf_G} {S : tf_Sg} {o : Nat} (ho : tf_mo G o) : tf_Fn mX11_refuse 1 0 0 G S [.ref o, .int (-6)] G (tf_rfS G S o 6) (some (.int (-6))) := m_refuse (-6) ho (by unfold vp_in; decide)

set_option maxHeartbeats 2000000 in
theorem p_keyOf {G : tf_G} {S : tf_Sg} {o : Nat} {A : tf_A} (b l : Int32) (ho : tf_mo G o) (hd : tf_md G o) (hA : tf_okA A) (hM : tf_ms G S o A)  : tf_pm mX11_keyOf 3 G S o [.ref o, .int b, .int l] (s_keyOf A b l) := by
  obtain ⟨h1, ⟨r0, t0, n0⟩, ⟨r1, t1, n1⟩, ⟨r2, t2, n2⟩, ⟨r4, t4, n4⟩⟩ := id ho
  obtain ⟨hg, hb, hA3, hA4, hA5, hA6⟩ := id hA
  have hs := hM.1
  have hf : tf_sf G S o A.1 := ⟨hM.1, hb⟩
  obtain ⟨⟨g1, g2, g3, g4⟩, g5, g6, g7, g8, g9, g10, g11⟩ := id hg
  unfold s_keyOf
  by_cases c1 : ¬ b < 0 ∧ ¬ 4 ≤ b
  · by_cases c2 : ¬ l < 0 ∧ ¬ 26 ≤ l
    · rw [if_pos ⟨c1, c2⟩]
      obtain ⟨b1, b1_lt, b1_eq, b1_cl⟩ := tf_ok_nI (N := 4) (show tf_ok b _ from c1) rfl (by decide)
      rw [b1_cl]
      obtain ⟨l1, l1_lt, l1_eq, l1_cl⟩ := tf_ok_nI (N := 26) (show tf_ok l _ from c2) rfl (by decide)
      rw [l1_cl]
      subst b1_eq
      subst l1_eq
      refine ⟨S, tf_Fn_of (own := RX11) false ⟨by decide, rfl, by decide⟩ (Nat.le_of_ble_eq_true rfl) trivial (fun x hx hR => ?_), hM, tf_fm_id⟩
      show tf_K x 0 0 G S 0 [some (.ref o), some (.int (nI b1)), some (.int (nI l1))] []
      refine tf_go hx ftX11_keyOf 1 [] 1 [some (.ref o), some (.int (nI b1)), some (.int (nI l1))] [.int (nI b1)] S rfl ⟨by decide, by decide, rfl⟩ trivial ?_
      refine tf_cS hx ftX11_keyOf (nx := 4) (As := [.int (nI b1)]) (rest := []) (st2 := [.int (if ¬ (nI b1) < 0 ∧ ¬ 4 ≤ (nI b1) then 1 else 0)]) (m_isBoard (nI b1)) rfl lX11_40 rfl ⟨rfl, by decide, by decide, by decide, rfl, rfl⟩ ?_
      rw [if_pos c1]
      refine tf_go hx ftX11_keyOf 3 [false] 10 [some (.ref o), some (.int (nI b1)), some (.int (nI l1))] [.int 26, .int (nI l1)] S rfl ⟨by decide, by decide, rfl⟩ ⟨trivial, (by decide)⟩ ?_
      refine tf_cS hx ftX11_keyOf (nx := 13) (As := [.int (nI l1), .int 26]) (rest := []) (st2 := [.int (if ¬ (nI l1) < 0 ∧ ¬ 26 ≤ (nI l1) then 1 else 0)]) (m_isIn (nI l1) 26) rfl lX11_22 rfl ⟨rfl, by decide, by decide, by decide, rfl, rfl⟩ ?_
      rw [if_pos c2]
      refine tf_go hx ftX11_keyOf 4 [false] 19 [some (.ref o), some (.int (nI b1)), some (.int (nI l1))] [.int (nI l1), .int (nI b1), .ref o] S rfl ⟨by decide, by decide, rfl⟩ ⟨trivial, (by decide)⟩ ?_
      refine tf_cV hx ftX11_keyOf (nx := 22) (As := [.int (nI b1), .int (nI l1)]) (rest := []) (st2 := [.int (tf_on 30 (tf_ke A.1 b1 l1))]) (m_keyAt b1 l1 ho hf b1_lt (by omega)) rfl lX11_51 (by first | assumption | rfl | decide) rfl ⟨rfl, by decide, by decide, by decide, rfl, rfl⟩ ?_
      refine tf_go hx ftX11_keyOf 1 [] 30 [some (.ref o), some (.int (nI b1)), some (.int (nI l1))] [.int (tf_on 30 (tf_ke A.1 b1 l1))] S rfl ⟨by decide, by decide, rfl⟩ trivial ?_
      exact tf_ret ftX11_keyOf hR rfl ⟨by decide, by decide⟩ rfl rfl rfl
    · rw [if_neg (fun h => c2 h.2)]
      refine ⟨tf_rfS G S o 1, tf_Fn_of (own := RX11) false ⟨by decide, rfl, by decide⟩ (Nat.le_of_ble_eq_true rfl) trivial (fun x hx hR => ?_), tf_ms_ref ho hd hM 1, tf_fm_0⟩
      show tf_K x 0 0 G S 0 [some (.ref o), some (.int b), some (.int l)] []
      refine tf_go hx ftX11_keyOf 1 [] 1 [some (.ref o), some (.int b), some (.int l)] [.int b] S rfl ⟨by decide, by decide, rfl⟩ trivial ?_
      refine tf_cS hx ftX11_keyOf (nx := 4) (As := [.int b]) (rest := []) (st2 := [.int (if ¬ b < 0 ∧ ¬ 4 ≤ b then 1 else 0)]) (m_isBoard b) rfl lX11_40 rfl ⟨rfl, by decide, by decide, by decide, rfl, rfl⟩ ?_
      rw [if_pos c1]
      refine tf_go hx ftX11_keyOf 3 [false] 10 [some (.ref o), some (.int b), some (.int l)] [.int 26, .int l] S rfl ⟨by decide, by decide, rfl⟩ ⟨trivial, (by decide)⟩ ?_
      refine tf_cS hx ftX11_keyOf (nx := 13) (As := [.int l, .int 26]) (rest := []) (st2 := [.int (if ¬ l < 0 ∧ ¬ 26 ≤ l then 1 else 0)]) (m_isIn l 26) rfl lX11_22 rfl ⟨rfl, by decide, by decide, by decide, rfl, rfl⟩ ?_
      rw [if_neg c2]
      refine tf_go hx ftX11_keyOf 3 [true] 27 [some (.ref o), some (.int b), some (.int l)] [.int (-1), .ref o] S rfl ⟨by decide, by decide, rfl⟩ ⟨trivial, (by decide)⟩ ?_
      refine tf_cV hx ftX11_keyOf (nx := 30) (As := [.int (-1)]) (rest := []) (st2 := [.int (-1)]) (m_ref1 ho) rfl lX11_26 (by first | assumption | rfl | decide) rfl ⟨rfl, by decide, by decide, by decide, rfl, rfl⟩ ?_
      exact tf_ret ftX11_keyOf hR rfl ⟨by decide, by decide⟩ rfl rfl rfl
  · rw [if_neg (fun h => c1 h.1)]
    refine ⟨tf_rfS G S o 1, tf_Fn_of (own := RX11) false ⟨by decide, rfl, by decide⟩ (Nat.le_of_ble_eq_true rfl) trivial (fun x hx hR => ?_), tf_ms_ref ho hd hM 1, tf_fm_0⟩
    show tf_K x 0 0 G S 0 [some (.ref o), some (.int b), some (.int l)] []
    refine tf_go hx ftX11_keyOf 1 [] 1 [some (.ref o), some (.int b), some (.int l)] [.int b] S rfl ⟨by decide, by decide, rfl⟩ trivial ?_
    refine tf_cS hx ftX11_keyOf (nx := 4) (As := [.int b]) (rest := []) (st2 := [.int (if ¬ b < 0 ∧ ¬ 4 ≤ b then 1 else 0)]) (m_isBoard b) rfl lX11_40 rfl ⟨rfl, by decide, by decide, by decide, rfl, rfl⟩ ?_
    rw [if_neg c1]
    refine tf_go hx ftX11_keyOf 3 [true] 27 [some (.ref o), some (.int b), some (.int l)] [.int (-1), .ref o] S rfl ⟨by decide, by decide, rfl⟩ ⟨trivial, (by decide)⟩ ?_
    refine tf_cV hx ftX11_keyOf (nx := 30) (As := [.int (-1)]) (rest := []) (st2 := [.int (-1)]) (m_ref1 ho) rfl lX11_26 (by first | assumption | rfl | decide) rfl ⟨rfl, by decide, by decide, by decide, rfl, rfl⟩ ?_
    exact tf_ret ftX11_keyOf hR rfl ⟨by decide, by decide⟩ rfl rfl rfl

