def tX11_keyOf : tf_T := [(0, .iload_n 1, 1, 0, 0),
  (1, .invokestatic 40, 4, 0, 0),
  (4, .ifCond .eq 21, 7, 25, 0),
  (7, .iload_n 2, 8, 0, 0),
  (8, .bipush 26, 10, 0, 26),
  (10, .invokestatic 22, 13, 0, 0),
  (13, .ifCond .eq 12, 16, 25, 0),
  (16, .aload_n 0, 17, 0, 0),
  (17, .iload_n 1, 18, 0, 0),
  (18, .iload_n 2, 19, 0, 0),
  (19, .invokevirtual 51, 22, 0, 0),
  (22, .goto 8, 25, 30, 0),
  (25, .aload_n 0, 26, 0, 0),
  (26, .iconst (-1), 27, 0, (-1)),
  (27, .invokevirtual 26, 30, 0, 0),
  (30, .ireturn, 31, 0, 0)]
set_option maxRecDepth 100000 in
theorem okX11_keyOf : tf_okT cX11_keyOf tX11_keyOf := by unfold tf_okT; decide +kernel
theorem ftX11_keyOf : 1 ≤ 3 ∧ tf_okF RX11 fX11 ∧ tf_okT cX11_keyOf tX11_keyOf := ⟨by decide, okfX11, okX11_keyOf⟩
def mX11_keyOf : tf_M := (yX11_keyOf, cX11_keyOf, 3, (some .int))

def tX11_letterOn : tf_T := [(0, .iload_n 1, 1, 0, 0),
  (1, .invokestatic 40, 4, 0, 0),
  (4, .ifCond .eq 10, 7, 14, 0),
  (7, .iload_n 2, 8, 0, 0),
  (8, .invokestatic 55, 11, 0, 0),
  (11, .ifCond .ne 11, 14, 22, 0),
  (14, .aload_n 0, 15, 0, 0),
  (15, .iconst (-1), 16, 0, (-1)),
  (16, .invokevirtual 26, 19, 0, 0),
  (19, .goto 35, 22, 54, 0),
  (22, .aload_n 0, 23, 0, 0),
  (23, .getfield 13, 26, 0, 0),
  (26, .bipush 30, 28, 0, 30),
  (28, .iload_n 1, 29, 0, 0),
  (29, .imul, 30, 0, 0),
  (30, .iload_n 2, 31, 0, 0),
  (31, .iadd, 32, 0, 0),
  (32, .iaload, 33, 0, 0),
  (33, .ifCond .ne 8, 36, 41, 0),
  (36, .bipush (-9), 38, 0, (-9)),
  (38, .goto 16, 41, 54, 0),
  (41, .aload_n 0, 42, 0, 0),
  (42, .getfield 13, 45, 0, 0),
  (45, .bipush 30, 47, 0, 30),
  (47, .iload_n 1, 48, 0, 0),
  (48, .imul, 49, 0, 0),
  (49, .iload_n 2, 50, 0, 0),
  (50, .iadd, 51, 0, 0),
  (51, .iaload, 52, 0, 0),
  (52, .iconst 1, 53, 0, 1),
  (53, .isub, 54, 0, 0),
  (54, .ireturn, 55, 0, 0)]
set_option maxRecDepth 100000 in
theorem okX11_letterOn : tf_okT cX11_letterOn tX11_letterOn := by unfold tf_okT; decide +kernel
theorem ftX11_letterOn : 1 ≤ 3 ∧ tf_okF RX11 fX11 ∧ tf_okT cX11_letterOn tX11_letterOn := ⟨by decide, okfX11, okX11_letterOn⟩
def mX11_letterOn : tf_M := (yX11_letterOn, cX11_letterOn, 3, (some .int))

def tX11_fingerOf : tf_T := [(0, .iload_n 1, 1, 0, 0),
  (1, .invokestatic 55, 4, 0, 0),
  (4, .ifCond .eq 11, 7, 15, 0),
  (7, .iload_n 1, 8, 0, 0),
  (8, .iload_n 2, 9, 0, 0),
  (9, .invokestatic 58, 12, 0, 0),
  (12, .goto 8, 15, 20, 0),
  (15, .aload_n 0, 16, 0, 0),
  (16, .iconst (-1), 17, 0, (-1)),
  (17, .invokevirtual 26, 20, 0, 0),
  (20, .ireturn, 21, 0, 0)]
set_option maxRecDepth 100000 in
theorem okX11_fingerOf : tf_okT cX11_fingerOf tX11_fingerOf := by unfold tf_okT; decide +kernel
theorem ftX11_fingerOf : 1 ≤ 3 ∧ tf_okF RX11 fX11 ∧ tf_okT cX11_fingerOf tX11_fingerOf := ⟨by decide, okfX11, okX11_fingerOf⟩
def mX11_fingerOf : tf_M := (yX11_fingerOf, cX11_fingerOf, 3, (some .int))

def tX11_law : tf_T := [(0, .iload_n 1, 1, 0, 0),
  (1, .invokestatic 62, 4, 0, 0),
  (4, .ifCond .eq 23, 7, 27, 0),
  (7, .iload_n 2, 8, 0, 0),
  (8, .bipush 6, 10, 0, 6),
  (10, .invokestatic 22, 13, 0, 0),
  (13, .ifCond .eq 14, 16, 27, 0),
  (16, .iload_n 3, 17, 0, 0),
  (17, .iconst 0, 18, 0, 0),
  (18, .sipush 999, 21, 0, 999),
  (21, .invokestatic 65, 24, 0, 0),
  (24, .goto 4, 27, 28, 0),
  (27, .iconst (-1), 28, 0, (-1)),
  (28, .istore 4, 30, 0, 0),
  (30, .iload 4, 32, 0, 0),
  (32, .ifCond .eq 10, 35, 42, 0),
  (35, .aload_n 0, 36, 0, 0),
  (36, .iload 4, 38, 0, 0),
  (38, .invokevirtual 26, 41, 0, 0),
  (41, .ireturn, 42, 0, 0),
  (42, .aload_n 0, 43, 0, 0),
  (43, .getfield 13, 46, 0, 0),
  (46, .bipush 120, 48, 0, 120),
  (48, .bipush 6, 50, 0, 6),
  (50, .iload_n 1, 51, 0, 0),
  (51, .imul, 52, 0, 0),
  (52, .iadd, 53, 0, 0),
  (53, .iload_n 2, 54, 0, 0),
  (54, .iadd, 55, 0, 0),
  (55, .iaload, 56, 0, 0),
  (56, .istore 5, 58, 0, 0),
  (58, .aload_n 0, 59, 0, 0),
  (59, .getfield 13, 62, 0, 0),
  (62, .bipush 120, 64, 0, 120),
  (64, .bipush 6, 66, 0, 6),
  (66, .iload_n 1, 67, 0, 0),
  (67, .imul, 68, 0, 0),
  (68, .iadd, 69, 0, 0),
  (69, .iload_n 2, 70, 0, 0),
  (70, .iadd, 71, 0, 0),
  (71, .iload_n 3, 72, 0, 0),
  (72, .iastore, 73, 0, 0),
  (73, .iload 5, 75, 0, 0),
  (75, .ireturn, 76, 0, 0)]
set_option maxRecDepth 100000 in
theorem okX11_law : tf_okT cX11_law tX11_law := by unfold tf_okT; decide +kernel
theorem ftX11_law : 1 ≤ 3 ∧ tf_okF RX11 fX11 ∧ tf_okT cX11_law tX11_law := ⟨by decide, okfX11, okX11_law⟩
def mX11_law : tf_M := (yX11_law, cX11_law, 6, (some .int))

def tX11_gap : tf_T := [(0, .iload_n 1, 1, 0, 0),
  (1, .invokestatic 62, 4, 0, 0),
  (4, .ifCond .eq 37, 7, 41, 0),
  (7, .iload_n 2, 8, 0, 0),
  (8, .invokestatic 40, 11, 0, 0),
  (11, .ifCond .eq 30, 14, 41, 0),
  (14, .iload_n 3, 15, 0, 0),
  (15, .invokestatic 55, 18, 0, 0),
  (18, .ifCond .eq 23, 21, 41, 0),
  (21, .iload 4, 23, 0, 0),
  (23, .invokestatic 55, 26, 0, 0),
  (26, .ifCond .eq 15, 29, 41, 0),
  (29, .aload_n 0, 30, 0, 0),
  (30, .iload_n 1, 31, 0, 0),
  (31, .iload_n 3, 32, 0, 0),
  (32, .iload 4, 34, 0, 0),
  (34, .iconst 0, 35, 0, 0),
  (35, .invokevirtual 76, 38, 0, 0),
  (38, .goto 8, 41, 46, 0),
  (41, .aload_n 0, 42, 0, 0),
  (42, .iconst (-1), 43, 0, (-1)),
  (43, .invokevirtual 26, 46, 0, 0),
  (46, .ireturn, 47, 0, 0)]
set_option maxRecDepth 100000 in
theorem okX11_gap : tf_okT cX11_gap tX11_gap := by unfold tf_okT; decide +kernel
theorem ftX11_gap : 1 ≤ 4 ∧ tf_okF RX11 fX11 ∧ tf_okT cX11_gap tX11_gap := ⟨by decide, okfX11, okX11_gap⟩
def mX11_gap : tf_M := (yX11_gap, cX11_gap, 5, (some .int))

def tX11_sign : tf_T := [(0, .iload_n 2, 1, 0, 0),
  (1, .aload_n 0, 2, 0, 0),
  (2, .getfield 13, 5, 0, 0),
  (5, .iload_n 1, 6, 0, 0),
  (6, .ifCond .eq 9, 9, 15, 0),
  (9, .sipush 364, 12, 0, 364),
  (12, .goto 6, 15, 18, 0),
  (15, .sipush 365, 18, 0, 365),
  (18, .iaload, 19, 0, 0),
  (19, .invokestatic 22, 22, 0, 0),
  (22, .ifCond .eq 26, 25, 48, 0),
  (25, .aload_n 0, 26, 0, 0),
  (26, .getfield 13, 29, 0, 0),
  (29, .iload_n 1, 30, 0, 0),
  (30, .ifCond .eq 9, 33, 39, 0),
  (33, .sipush 144, 36, 0, 144),
  (36, .goto 6, 39, 42, 0),
  (39, .sipush 184, 42, 0, 184),
  (42, .iload_n 2, 43, 0, 0),
  (43, .iadd, 44, 0, 0),
  (44, .iaload, 45, 0, 0),
  (45, .goto 5, 48, 50, 0),
  (48, .bipush (-9), 50, 0, (-9)),
  (50, .ireturn, 51, 0, 0)]
set_option maxRecDepth 100000 in
theorem okX11_sign : tf_okT cX11_sign tX11_sign := by unfold tf_okT; decide +kernel
theorem ftX11_sign : 1 ≤ 2 ∧ tf_okF RX11 fX11 ∧ tf_okT cX11_sign tX11_sign := ⟨by decide, okfX11, okX11_sign⟩
def mX11_sign : tf_M := (yX11_sign, cX11_sign, 3, (some .int))

def tX11_practise : tf_T := [(0, .iload_n 1, 1, 0, 0),
  (1, .aload_n 0, 2, 0, 0),
  (2, .getfield 13, 5, 0, 0),
  (5, .sipush 366, 8, 0, 366),
  (8, .iaload, 9, 0, 0),
  (9, .invokestatic 22, 12, 0, 0),
  (12, .ifCond .eq 14, 15, 26, 0),
  (15, .iload_n 2, 16, 0, 0),
  (16, .iconst 1, 17, 0, 1),
  (17, .sipush 999, 20, 0, 999),
  (20, .invokestatic 65, 23, 0, 0),
  (23, .goto 4, 26, 27, 0),
  (26, .iconst (-1), 27, 0, (-1)),
  (27, .istore_n 3, 28, 0, 0),
  (28, .iload_n 3, 29, 0, 0),
  (29, .ifCond .eq 9, 32, 38, 0),
  (32, .aload_n 0, 33, 0, 0),
  (33, .iload_n 3, 34, 0, 0),
  (34, .invokevirtual 26, 37, 0, 0),
  (37, .ireturn, 38, 0, 0),
  (38, .sipush 224, 41, 0, 224),
  (41, .bipush 10, 43, 0, 10),
  (43, .iload_n 1, 44, 0, 0),
  (44, .imul, 45, 0, 0),
  (45, .iadd, 46, 0, 0),
  (46, .iconst 1, 47, 0, 1),
  (47, .iadd, 48, 0, 0),
  (48, .istore 4, 50, 0, 0),
  (50, .aload_n 0, 51, 0, 0),
  (51, .getfield 13, 54, 0, 0),
  (54, .iload 4, 56, 0, 0),
  (56, .aload_n 0, 57, 0, 0),
  (57, .getfield 13, 60, 0, 0),
  (60, .iload 4, 62, 0, 0),
  (62, .iaload, 63, 0, 0),
  (63, .iload_n 2, 64, 0, 0),
  (64, .iadd, 65, 0, 0),
  (65, .sipush 9999, 68, 0, 9999),
  (68, .if_icmp .le 9, 71, 77, 0),
  (71, .sipush 9999, 74, 0, 9999),
  (74, .goto 12, 77, 86, 0),
  (77, .aload_n 0, 78, 0, 0),
  (78, .getfield 13, 81, 0, 0),
  (81, .iload 4, 83, 0, 0),
  (83, .iaload, 84, 0, 0),
  (84, .iload_n 2, 85, 0, 0),
  (85, .iadd, 86, 0, 0),
  (86, .iastore, 87, 0, 0),
  (87, .aload_n 0, 88, 0, 0),
  (88, .getfield 13, 91, 0, 0),
  (91, .iload 4, 93, 0, 0),
  (93, .iaload, 94, 0, 0),
  (94, .ireturn, 95, 0, 0)]
set_option maxRecDepth 100000 in
theorem okX11_practise : tf_okT cX11_practise tX11_practise := by unfold tf_okT; decide +kernel
theorem ftX11_practise : 1 ≤ 2 ∧ tf_okF RX11 fX11 ∧ tf_okT cX11_practise tX11_practise := ⟨by decide, okfX11, okX11_practise⟩
def mX11_practise : tf_M := (yX11_practise, cX11_practise, 5, (some .int))

def tX11_time : tf_T := [(0, .iload_n 1, 1, 0, 0),
  (1, .invokestatic 62, 4, 0, 0),
  (4, .ifCond .eq 20, 7, 24, 0),
  (7, .iload_n 2, 8, 0, 0),
  (8, .invokestatic 40, 11, 0, 0),
  (11, .ifCond .eq 13, 14, 24, 0),
  (14, .aload_n 0, 15, 0, 0),
  (15, .iload_n 1, 16, 0, 0),
  (16, .iload_n 2, 17, 0, 0),
  (17, .iload_n 3, 18, 0, 0),
  (18, .invokevirtual 92, 21, 0, 0),
  (21, .goto 8, 24, 29, 0),
  (24, .aload_n 0, 25, 0, 0),
  (25, .iconst (-1), 26, 0, (-1)),
  (26, .invokevirtual 26, 29, 0, 0),
  (29, .ireturn, 30, 0, 0)]
set_option maxRecDepth 100000 in
theorem okX11_time : tf_okT cX11_time tX11_time := by unfold tf_okT; decide +kernel
theorem ftX11_time : 1 ≤ 6 ∧ tf_okF RX11 fX11 ∧ tf_okT cX11_time tX11_time := ⟨by decide, okfX11, okX11_time⟩
def mX11_time : tf_M := (yX11_time, cX11_time, 4, (some .int))

def tX11_where : tf_T := [(0, .iload_n 1, 1, 0, 0),
  (1, .invokestatic 40, 4, 0, 0),
  (4, .ifCond .ne 9, 7, 13, 0),
  (7, .aload_n 0, 8, 0, 0),
  (8, .iconst (-1), 9, 0, (-1)),
  (9, .invokevirtual 26, 12, 0, 0),
  (12, .ireturn, 13, 0, 0),
  (13, .iload_n 2, 14, 0, 0),
  (14, .bipush 8, 16, 0, 8),
  (16, .invokestatic 22, 19, 0, 0),
  (19, .ifCond .eq 12, 22, 31, 0),
  (22, .aload_n 0, 23, 0, 0),
  (23, .iload_n 1, 24, 0, 0),
  (24, .iload_n 2, 25, 0, 0),
  (25, .invokevirtual 116, 28, 0, 0),
  (28, .goto 9, 31, 37, 0),
  (31, .aload_n 0, 32, 0, 0),
  (32, .bipush (-2), 34, 0, (-2)),
  (34, .invokevirtual 26, 37, 0, 0),
  (37, .ireturn, 38, 0, 0)]
set_option maxRecDepth 100000 in
theorem okX11_where : tf_okT cX11_where tX11_where := by unfold tf_okT; decide +kernel
theorem ftX11_where : 1 ≤ 4 ∧ tf_okF RX11 fX11 ∧ tf_okT cX11_where tX11_where := ⟨by decide, okfX11, okX11_where⟩
def mX11_where : tf_M := (yX11_where, cX11_where, 3, (some .int))

def tX11_exchange : tf_T := [(0, .iload_n 1, 1, 0, 0),
  (1, .invokestatic 40, 4, 0, 0),
  (4, .ifCond .eq 22, 7, 26, 0),
  (7, .iload_n 2, 8, 0, 0),
  (8, .invokestatic 55, 11, 0, 0),
  (11, .ifCond .eq 15, 14, 26, 0),
  (14, .iload_n 3, 15, 0, 0),
  (15, .invokestatic 55, 18, 0, 0),
  (18, .ifCond .eq 8, 21, 26, 0),
  (21, .iload_n 2, 22, 0, 0),
  (22, .iload_n 3, 23, 0, 0),
  (23, .if_icmp .ne 9, 26, 32, 0),
  (26, .aload_n 0, 27, 0, 0),
  (27, .iconst (-1), 28, 0, (-1)),
  (28, .invokevirtual 26, 31, 0, 0),
  (31, .ireturn, 32, 0, 0),
  (32, .aload_n 0, 33, 0, 0),
  (33, .iload_n 1, 34, 0, 0),
  (34, .iload_n 2, 35, 0, 0),
  (35, .iload_n 3, 36, 0, 0),
  (36, .invokevirtual 119, 39, 0, 0),
  (39, .iconst 1, 40, 0, 1),
  (40, .ireturn, 41, 0, 0)]
set_option maxRecDepth 100000 in
theorem okX11_exchange : tf_okT cX11_exchange tX11_exchange := by unfold tf_okT; decide +kernel
theorem ftX11_exchange : 1 ≤ 3 ∧ tf_okF RX11 fX11 ∧ tf_okT cX11_exchange tX11_exchange := ⟨by decide, okfX11, okX11_exchange⟩
def mX11_exchange : tf_M := (yX11_exchange, cX11_exchange, 4, (some .int))

def tX11_better : tf_T := [(0, .iload_n 1, 1, 0, 0),
  (1, .invokestatic 62, 4, 0, 0),
  (4, .ifCond .eq 19, 7, 23, 0),
  (7, .iload_n 2, 8, 0, 0),
  (8, .invokestatic 40, 11, 0, 0),
  (11, .ifCond .eq 12, 14, 23, 0),
  (14, .aload_n 0, 15, 0, 0),
  (15, .iload_n 1, 16, 0, 0),
  (16, .iload_n 2, 17, 0, 0),
  (17, .invokevirtual 123, 20, 0, 0),
  (20, .goto 8, 23, 28, 0),
  (23, .aload_n 0, 24, 0, 0),
  (24, .iconst (-1), 25, 0, (-1)),
  (25, .invokevirtual 26, 28, 0, 0),
  (28, .ireturn, 29, 0, 0)]
set_option maxRecDepth 100000 in
theorem okX11_better : tf_okT cX11_better tX11_better := by unfold tf_okT; decide +kernel
theorem ftX11_better : 1 ≤ 7 ∧ tf_okF RX11 fX11 ∧ tf_okT cX11_better tX11_better := ⟨by decide, okfX11, okX11_better⟩
def mX11_better : tf_M := (yX11_better, cX11_better, 3, (some .int))

def tX11_far : tf_T := [(0, .iload_n 1, 1, 0, 0),
  (1, .invokestatic 62, 4, 0, 0),
  (4, .ifCond .eq 19, 7, 23, 0),
  (7, .iload_n 2, 8, 0, 0),
  (8, .invokestatic 40, 11, 0, 0),
  (11, .ifCond .eq 12, 14, 23, 0),
  (14, .aload_n 0, 15, 0, 0),
  (15, .iload_n 1, 16, 0, 0),
  (16, .iload_n 2, 17, 0, 0),
  (17, .invokevirtual 126, 20, 0, 0),
  (20, .goto 8, 23, 28, 0),
  (23, .aload_n 0, 24, 0, 0),
  (24, .iconst (-1), 25, 0, (-1)),
  (25, .invokevirtual 26, 28, 0, 0),
  (28, .ireturn, 29, 0, 0)]
set_option maxRecDepth 100000 in
theorem okX11_far : tf_okT cX11_far tX11_far := by unfold tf_okT; decide +kernel
theorem ftX11_far : 1 ≤ 6 ∧ tf_okF RX11 fX11 ∧ tf_okT cX11_far tX11_far := ⟨by decide, okfX11, okX11_far⟩
def mX11_far : tf_M := (yX11_far, cX11_far, 3, (some .int))

def tX11_pace : tf_T := [(0, .iload_n 1, 1, 0, 0),
  (1, .invokestatic 62, 4, 0, 0),
  (4, .ifCond .eq 10, 7, 14, 0),
  (7, .iload_n 2, 8, 0, 0),
  (8, .invokestatic 40, 11, 0, 0),
  (11, .ifCond .ne 9, 14, 20, 0),
  (14, .aload_n 0, 15, 0, 0),
  (15, .iconst (-1), 16, 0, (-1)),
  (16, .invokevirtual 26, 19, 0, 0),
  (19, .ireturn, 20, 0, 0),
  (20, .iload_n 3, 21, 0, 0),
  (21, .iconst 1, 22, 0, 1),
  (22, .if_icmp .lt 8, 25, 30, 0),
  (25, .iload 4, 27, 0, 0),
  (27, .ifCond .ge 10, 30, 37, 0),
  (30, .aload_n 0, 31, 0, 0),
  (31, .bipush (-4), 33, 0, (-4)),
  (33, .invokevirtual 26, 36, 0, 0),
  (36, .ireturn, 37, 0, 0),
  (37, .iload_n 3, 38, 0, 0),
  (38, .bipush 9, 40, 0, 9),
  (40, .if_icmp .gt 11, 43, 51, 0),
  (43, .iload 4, 45, 0, 0),
  (45, .sipush 9999, 48, 0, 9999),
  (48, .if_icmp .le 12, 51, 60, 0),
  (51, .aload_n 0, 52, 0, 0),
  (52, .bipush (-6), 54, 0, (-6)),
  (54, .invokevirtual 26, 57, 0, 0),
  (57, .goto 12, 60, 69, 0),
  (60, .aload_n 0, 61, 0, 0),
  (61, .iload_n 1, 62, 0, 0),
  (62, .iload_n 2, 63, 0, 0),
  (63, .iload_n 3, 64, 0, 0),
  (64, .iload 4, 66, 0, 0),
  (66, .invokevirtual 132, 69, 0, 0),
  (69, .ireturn, 70, 0, 0)]
set_option maxRecDepth 100000 in
theorem okX11_pace : tf_okT cX11_pace tX11_pace := by unfold tf_okT; decide +kernel
theorem ftX11_pace : 1 ≤ 7 ∧ tf_okF RX11 fX11 ∧ tf_okT cX11_pace tX11_pace := ⟨by decide, okfX11, okX11_pace⟩
def mX11_pace : tf_M := (yX11_pace, cX11_pace, 5, (some .int))

def tX11_put : tf_T := [(0, .iload_n 1, 1, 0, 0),
  (1, .iconst 0, 2, 0, 0),
  (2, .sipush 9999, 5, 0, 9999),
  (5, .invokestatic 65, 8, 0, 0),
  (8, .istore_n 2, 9, 0, 0),
  (9, .iload_n 2, 10, 0, 0),
  (10, .ifCond .ne 19, 13, 29, 0),
  (13, .aload_n 0, 14, 0, 0),
  (14, .getfield 13, 17, 0, 0),
  (17, .sipush 367, 20, 0, 367),
  (20, .iaload, 21, 0, 0),
  (21, .bipush 40, 23, 0, 40),
  (23, .if_icmp .ne 6, 26, 29, 0),
  (26, .bipush (-6), 28, 0, (-6)),
  (28, .istore_n 2, 29, 0, 0),
  (29, .iload_n 2, 30, 0, 0),
  (30, .ifCond .eq 9, 33, 39, 0),
  (33, .aload_n 0, 34, 0, 0),
  (34, .iload_n 2, 35, 0, 0),
  (35, .invokevirtual 26, 38, 0, 0),
  (38, .ireturn, 39, 0, 0),
  (39, .aload_n 0, 40, 0, 0),
  (40, .getfield 13, 43, 0, 0),
  (43, .sipush 324, 46, 0, 324),
  (46, .aload_n 0, 47, 0, 0),
  (47, .getfield 13, 50, 0, 0),
  (50, .sipush 367, 53, 0, 367),
  (53, .iaload, 54, 0, 0),
  (54, .iadd, 55, 0, 0),
  (55, .iload_n 1, 56, 0, 0),
  (56, .iastore, 57, 0, 0),
  (57, .aload_n 0, 58, 0, 0),
  (58, .getfield 13, 61, 0, 0),
  (61, .sipush 367, 64, 0, 367),
  (64, .dup2, 65, 0, 0),
  (65, .iaload, 66, 0, 0),
  (66, .iconst 1, 67, 0, 1),
  (67, .iadd, 68, 0, 0),
  (68, .iastore, 69, 0, 0),
  (69, .aload_n 0, 70, 0, 0),
  (70, .getfield 13, 73, 0, 0),
  (73, .sipush 367, 76, 0, 367),
  (76, .iaload, 77, 0, 0),
  (77, .ireturn, 78, 0, 0)]
set_option maxRecDepth 100000 in
theorem okX11_put : tf_okT cX11_put tX11_put := by unfold tf_okT; decide +kernel
theorem ftX11_put : 1 ≤ 2 ∧ tf_okF RX11 fX11 ∧ tf_okT cX11_put tX11_put := ⟨by decide, okfX11, okX11_put⟩
def mX11_put : tf_M := (yX11_put, cX11_put, 3, (some .int))

def tX11_unput : tf_T := [(0, .aload_n 0, 1, 0, 0),
  (1, .getfield 13, 4, 0, 0),
  (4, .sipush 367, 7, 0, 367),
  (7, .iaload, 8, 0, 0),
  (8, .istore_n 1, 9, 0, 0),
  (9, .aload_n 0, 10, 0, 0),
  (10, .getfield 13, 13, 0, 0),
  (13, .sipush 367, 16, 0, 367),
  (16, .iconst 0, 17, 0, 0),
  (17, .iastore, 18, 0, 0),
  (18, .iload_n 1, 19, 0, 0),
  (19, .ireturn, 20, 0, 0)]
set_option maxRecDepth 100000 in
theorem okX11_unput : tf_okT cX11_unput tX11_unput := by unfold tf_okT; decide +kernel
theorem ftX11_unput : 1 ≤ 1 ∧ tf_okF RX11 fX11 ∧ tf_okT cX11_unput tX11_unput := ⟨by decide, okfX11, okX11_unput⟩
def mX11_unput : tf_M := (yX11_unput, cX11_unput, 2, (some .int))

def tX11_count : tf_T := [(0, .iload_n 1, 1, 0, 0),
  (1, .bipush 10, 3, 0, 10),
  (3, .if_icmp .le 19, 6, 22, 0),
  (6, .iload_n 1, 7, 0, 0),
  (7, .bipush 17, 9, 0, 17),
  (9, .if_icmp .ge 13, 12, 22, 0),
  (12, .aload_n 0, 13, 0, 0),
  (13, .getfield 7, 16, 0, 0),
  (16, .iload_n 1, 17, 0, 0),
  (17, .bipush 10, 19, 0, 10),
  (19, .isub, 20, 0, 0),
  (20, .iaload, 21, 0, 0),
  (21, .ireturn, 22, 0, 0),
  (22, .iload_n 1, 23, 0, 0),
  (23, .tableswitch 74 0 4 #[33, 42, 51, 60, 69], 56, 0, 0),
  (56, .aload_n 0, 57, 0, 0),
  (57, .getfield 13, 60, 0, 0),
  (60, .sipush 364, 63, 0, 364),
  (63, .iaload, 64, 0, 0),
  (64, .ireturn, 65, 0, 0),
  (65, .aload_n 0, 66, 0, 0),
  (66, .getfield 13, 69, 0, 0),
  (69, .sipush 365, 72, 0, 365),
  (72, .iaload, 73, 0, 0),
  (73, .ireturn, 74, 0, 0),
  (74, .aload_n 0, 75, 0, 0),
  (75, .getfield 13, 78, 0, 0),
  (78, .sipush 366, 81, 0, 366),
  (81, .iaload, 82, 0, 0),
  (82, .ireturn, 83, 0, 0),
  (83, .aload_n 0, 84, 0, 0),
  (84, .getfield 13, 87, 0, 0),
  (87, .sipush 367, 90, 0, 367),
  (90, .iaload, 91, 0, 0),
  (91, .ireturn, 92, 0, 0),
  (92, .aload_n 0, 93, 0, 0),
  (93, .getfield 30, 96, 0, 0),
  (96, .ireturn, 97, 0, 0),
  (97, .bipush (-9), 99, 0, (-9)),
  (99, .ireturn, 100, 0, 0)]
set_option maxRecDepth 100000 in
theorem okX11_count : tf_okT cX11_count tX11_count := by unfold tf_okT; decide +kernel
theorem ftX11_count : 1 ≤ 1 ∧ tf_okF RX11 fX11 ∧ tf_okT cX11_count tX11_count := ⟨by decide, okfX11, okX11_count⟩
def mX11_count : tf_M := (yX11_count, cX11_count, 2, (some .int))

set_option maxRecDepth 100000 in
theorem lX11_40 : tf_okS RX11 40 1 mX11_isBoard := by unfold tf_okS tf_okL; decide +kernel

set_option maxRecDepth 100000 in
theorem lX11_55 : tf_okS RX11 55 1 mX11_isKey := by unfold tf_okS tf_okL; decide +kernel

set_option maxRecDepth 100000 in
theorem lX11_62 : tf_okS RX11 62 1 mX11_isHand := by unfold tf_okS tf_okL; decide +kernel

set_option maxRecDepth 100000 in
theorem lX11_65 : tf_okS RX11 65 3 mX11_within := by unfold tf_okS tf_okL; decide +kernel

set_option maxRecDepth 100000 in
theorem lX11_116 : tf_okV RX11 116 2 8 mX11_whereOf := by unfold tf_okV tf_okL; decide +kernel

set_option maxRecDepth 100000 in
theorem lX11_123 : tf_okV RX11 123 2 8 mX11_betterOf := by unfold tf_okV tf_okL; decide +kernel

set_option maxRecDepth 100000 in
theorem lX11_126 : tf_okV RX11 126 2 8 mX11_farOf := by unfold tf_okV tf_okL; decide +kernel

set_option maxRecDepth 100000 in
theorem lX11_132 : tf_okV RX11 132 4 8 mX11_paceOf := by unfold tf_okV tf_okL; decide +kernel

theorem m_ref1 {G : tf_G} {S : tf_Sg} {o : Nat} (ho : tf_mo G o) : tf_Fn mX11_refuse 1 0 0 G S [.ref o, .int (-1)] G (tf_rfS G S o 1) (some (.int (-1))) := m_refuse (-1) ho (by unfold vp_in; decide)

theorem m_ref2 {G : tf_G} {S : tf_Sg} {o : Nat} (ho : tf_mo G o) : tf_Fn mX11_refuse 1 0 0 G S [.ref o, .int (-2)] G (tf_rfS G S o 2) (some (.int (-2))) := m_refuse (-2) ho (by unfold vp_in; decide)

theorem m_ref3 {G : tf_G} {S : tf_Sg} {o : Nat} (ho : tf_mo G o) : tf_Fn mX11_refuse 1 0 0 G S [.ref o, .int (-3)] G (tf_rfS G S o 3) (some (.int (-3))) := m_refuse (-3) ho (by unfold vp_in; decide)

theorem m_ref4 {G : tf_G} {S : tf_Sg} {o : Nat} (ho : tf_mo G o) : tf_Fn mX11_refuse 1 0 0 G S [.ref o, .int (-4)] G (tf_rfS G S o 4) (some (.int (-4))) := m_refuse (-4) ho (by unfold vp_in; decide)

theorem m_ref6 {G : tf_G} {S : tf_Sg} {o : Nat} (ho : tf_mo G o) : tf_Fn mX11_refuse 1 0 0 G S [.ref o, .int (-6)] G (tf_rfS G S o 6) (some (.int (-6))) := m_refuse (-6) ho (by unfold vp_in; decide)

set_option maxHeartbeats 2000000 in
theorem p_keyOf {G : tf_G} {S : tf_Sg} {o : Nat} {A : tf_A} (b l : Int32) (ho : tf_mo G o) (hd : tf_md G o) (hA : tf_okA A) (hM : tf_ms G S o A)  : tf_pm mX11_keyOf 3 G S o [.ref o, .int b, .int l] (s_keyOf A b l) := by
  obtain ⟨h1, ⟨r0, t0, n0⟩, ⟨r1, t1, n1⟩, ⟨r2, t2, n2⟩, ⟨r4, t4, n4⟩⟩ := id ho
  obtain ⟨hg, hb, hA3, hA4, hA5, hA6⟩ := id hA
  have hs := hM.1
  have hf : tf_sf G S o A.1 := ⟨hM.1, hb⟩
  obtain ⟨⟨g1, g2, g3, g4⟩, g5, g6, g7, g8, g9, g10, g11⟩ := id hg
  unfold s_keyOf
  by_cases c1 : ¬ b < 0 ∧ ¬ 4 ≤ b
  · by_cases c2 : ¬ l < 0 ∧ ¬ 26 ≤ l
    · rw [if_pos ⟨c1, c2⟩]
      obtain ⟨b1, b1_lt, b1_eq, b1_cl⟩ := tf_ok_nI (N := 4) (show tf_ok b _ from c1) rfl (by decide)
      try rw [b1_cl]
      obtain ⟨l1, l1_lt, l1_eq, l1_cl⟩ := tf_ok_nI (N := 26) (show tf_ok l _ from c2) rfl (by decide)
      try rw [l1_cl]
      subst b1_eq
      subst l1_eq
      refine ⟨S, tf_Fn_of (own := RX11) false ⟨by decide, rfl, by decide⟩ (Nat.le_of_ble_eq_true rfl) trivial (fun x hx hR => ?_), hM, tf_fm_id⟩
      show tf_K x 0 0 G S 0 [some (.ref o), some (.int (nI b1)), some (.int (nI l1))] []
      refine tf_go hx ftX11_keyOf 1 [] 1 [some (.ref o), some (.int (nI b1)), some (.int (nI l1))] [.int (nI b1)] S rfl ⟨by decide, by decide, rfl⟩ trivial ?_
      refine tf_cS hx ftX11_keyOf (nx := 4) (As := [.int (nI b1)]) (rest := []) (st2 := [.int (if ¬ (nI b1) < 0 ∧ ¬ 4 ≤ (nI b1) then 1 else 0)]) (m_isBoard (nI b1)) rfl lX11_40 rfl ⟨rfl, by decide, by decide, by decide, rfl, rfl⟩ ?_
      rw [if_pos c1]
      refine tf_go hx ftX11_keyOf 3 [false] 10 [some (.ref o), some (.int (nI b1)), some (.int (nI l1))] [.int 26, .int (nI l1)] S rfl ⟨by decide, by decide, rfl⟩ ⟨trivial, (by decide)⟩ ?_
      refine tf_cS hx ftX11_keyOf (nx := 13) (As := [.int (nI l1), .int 26]) (rest := []) (st2 := [.int (if ¬ (nI l1) < 0 ∧ ¬ 26 ≤ (nI l1) then 1 else 0)]) (m_isIn (nI l1) 26) rfl lX11_22 rfl ⟨rfl, by decide, by decide, by decide, rfl, rfl⟩ ?_
      rw [if_pos c2]
      refine tf_go hx ftX11_keyOf 4 [false] 19 [some (.ref o), some (.int (nI b1)), some (.int (nI l1))] [.int (nI l1), .int (nI b1), .ref o] S rfl ⟨by decide, by decide, rfl⟩ ⟨trivial, (by decide)⟩ ?_
      refine tf_cV hx ftX11_keyOf (nx := 22) (As := [.int (nI b1), .int (nI l1)]) (rest := []) (st2 := [.int (tf_on 30 (tf_ke A.1 b1 l1))]) (m_keyAt b1 l1 ho hf b1_lt (by omega)) rfl lX11_51 (by first | assumption | rfl | decide) rfl ⟨rfl, by decide, by decide, by decide, rfl, rfl⟩ ?_
      refine tf_go hx ftX11_keyOf 1 [] 30 [some (.ref o), some (.int (nI b1)), some (.int (nI l1))] [.int (tf_on 30 (tf_ke A.1 b1 l1))] S rfl ⟨by decide, by decide, rfl⟩ trivial ?_
      exact tf_ret ftX11_keyOf hR rfl ⟨by decide, by decide⟩ rfl rfl rfl
    · rw [if_neg (fun h => c2 h.2)]
      refine ⟨tf_rfS G S o 1, tf_Fn_of (own := RX11) false ⟨by decide, rfl, by decide⟩ (Nat.le_of_ble_eq_true rfl) trivial (fun x hx hR => ?_), tf_ms_ref ho hd hM 1, tf_fm_0⟩
      show tf_K x 0 0 G S 0 [some (.ref o), some (.int b), some (.int l)] []
      refine tf_go hx ftX11_keyOf 1 [] 1 [some (.ref o), some (.int b), some (.int l)] [.int b] S rfl ⟨by decide, by decide, rfl⟩ trivial ?_
      refine tf_cS hx ftX11_keyOf (nx := 4) (As := [.int b]) (rest := []) (st2 := [.int (if ¬ b < 0 ∧ ¬ 4 ≤ b then 1 else 0)]) (m_isBoard b) rfl lX11_40 rfl ⟨rfl, by decide, by decide, by decide, rfl, rfl⟩ ?_
      rw [if_pos c1]
      refine tf_go hx ftX11_keyOf 3 [false] 10 [some (.ref o), some (.int b), some (.int l)] [.int 26, .int l] S rfl ⟨by decide, by decide, rfl⟩ ⟨trivial, (by decide)⟩ ?_
      refine tf_cS hx ftX11_keyOf (nx := 13) (As := [.int l, .int 26]) (rest := []) (st2 := [.int (if ¬ l < 0 ∧ ¬ 26 ≤ l then 1 else 0)]) (m_isIn l 26) rfl lX11_22 rfl ⟨rfl, by decide, by decide, by decide, rfl, rfl⟩ ?_
      rw [if_neg c2]
      refine tf_go hx ftX11_keyOf 3 [true] 27 [some (.ref o), some (.int b), some (.int l)] [.int (-1), .ref o] S rfl ⟨by decide, by decide, rfl⟩ ⟨trivial, (by decide)⟩ ?_
      refine tf_cV hx ftX11_keyOf (nx := 30) (As := [.int (-1)]) (rest := []) (st2 := [.int (-1)]) (m_ref1 ho) rfl lX11_26 (by first | assumption | rfl | decide) rfl ⟨rfl, by decide, by decide, by decide, rfl, rfl⟩ ?_
      exact tf_ret ftX11_keyOf hR rfl ⟨by decide, by decide⟩ rfl rfl rfl
  · rw [if_neg (fun h => c1 h.1)]
    refine ⟨tf_rfS G S o 1, tf_Fn_of (own := RX11) false ⟨by decide, rfl, by decide⟩ (Nat.le_of_ble_eq_true rfl) trivial (fun x hx hR => ?_), tf_ms_ref ho hd hM 1, tf_fm_0⟩
    show tf_K x 0 0 G S 0 [some (.ref o), some (.int b), some (.int l)] []
    refine tf_go hx ftX11_keyOf 1 [] 1 [some (.ref o), some (.int b), some (.int l)] [.int b] S rfl ⟨by decide, by decide, rfl⟩ trivial ?_
    refine tf_cS hx ftX11_keyOf (nx := 4) (As := [.int b]) (rest := []) (st2 := [.int (if ¬ b < 0 ∧ ¬ 4 ≤ b then 1 else 0)]) (m_isBoard b) rfl lX11_40 rfl ⟨rfl, by decide, by decide, by decide, rfl, rfl⟩ ?_
    rw [if_neg c1]
    refine tf_go hx ftX11_keyOf 3 [true] 27 [some (.ref o), some (.int b), some (.int l)] [.int (-1), .ref o] S rfl ⟨by decide, by decide, rfl⟩ ⟨trivial, (by decide)⟩ ?_
    refine tf_cV hx ftX11_keyOf (nx := 30) (As := [.int (-1)]) (rest := []) (st2 := [.int (-1)]) (m_ref1 ho) rfl lX11_26 (by first | assumption | rfl | decide) rfl ⟨rfl, by decide, by decide, by decide, rfl, rfl⟩ ?_
    exact tf_ret ftX11_keyOf hR rfl ⟨by decide, by decide⟩ rfl rfl rfl

set_option maxHeartbeats 2000000 in
theorem p_letterOn {G : tf_G} {S : tf_Sg} {o : Nat} {A : tf_A} (b k : Int32) (ho : tf_mo G o) (hd : tf_md G o) (hA : tf_okA A) (hM : tf_ms G S o A)  : tf_pm mX11_letterOn 3 G S o [.ref o, .int b, .int k] (s_letterOn A b k) := by
  obtain ⟨h1, ⟨r0, t0, n0⟩, ⟨r1, t1, n1⟩, ⟨r2, t2, n2⟩, ⟨r4, t4, n4⟩⟩ := id ho
  obtain ⟨hg, hb, hA3, hA4, hA5, hA6⟩ := id hA
  have hs := hM.1
  have hf : tf_sf G S o A.1 := ⟨hM.1, hb⟩
  obtain ⟨⟨g1, g2, g3, g4⟩, g5, g6, g7, g8, g9, g10, g11⟩ := id hg
  unfold s_letterOn
  by_cases c0 : ¬ b < 0 ∧ ¬ 4 ≤ b
  · by_cases c1 : ¬ k < 0 ∧ ¬ 30 ≤ k
    · rw [if_pos ⟨c0, c1⟩]
      obtain ⟨b1, b1_lt, b1_eq, b1_cl⟩ := tf_ok_nI (N := 4) (show tf_ok b _ from c0) rfl (by decide)
      try rw [b1_cl]
      obtain ⟨k1, k1_lt, k1_eq, k1_cl⟩ := tf_ok_nI (N := 30) (show tf_ok k _ from c1) rfl (by decide)
      try rw [k1_cl]
      subst b1_eq
      subst k1_eq
      by_cases e1 : A.1 (30 * b1 + k1) = 0
      · rw [if_pos e1]
        refine ⟨S, tf_Fn_of (own := RX11) false ⟨by decide, rfl, by decide⟩ (Nat.le_of_ble_eq_true rfl) trivial (fun x hx hR => ?_), hM, tf_fm_id⟩
        show tf_K x 0 0 G S 0 [some (.ref o), some (.int (nI b1)), some (.int (nI k1))] []
        refine tf_go hx ftX11_letterOn 1 [] 1 [some (.ref o), some (.int (nI b1)), some (.int (nI k1))] [.int (nI b1)] S rfl ⟨by decide, by decide, rfl⟩ trivial ?_
        refine tf_cS hx ftX11_letterOn (nx := 4) (As := [.int (nI b1)]) (rest := []) (st2 := [.int (if ¬ (nI b1) < 0 ∧ ¬ 4 ≤ (nI b1) then 1 else 0)]) (m_isBoard (nI b1)) rfl lX11_40 rfl ⟨rfl, by decide, by decide, by decide, rfl, rfl⟩ ?_
        rw [if_pos c0]
        refine tf_go hx ftX11_letterOn 1 [false] 7 [some (.ref o), some (.int (nI b1)), some (.int (nI k1))] [] S rfl ⟨by decide, by decide, rfl⟩ ⟨trivial, (by decide)⟩ ?_
        refine tf_go hx ftX11_letterOn 1 [] 8 [some (.ref o), some (.int (nI b1)), some (.int (nI k1))] [.int (nI k1)] S rfl ⟨by decide, by decide, rfl⟩ trivial ?_
        refine tf_cS hx ftX11_letterOn (nx := 11) (As := [.int (nI k1)]) (rest := []) (st2 := [.int (if ¬ (nI k1) < 0 ∧ ¬ 30 ≤ (nI k1) then 1 else 0)]) (m_isKey (nI k1)) rfl lX11_55 rfl ⟨rfl, by decide, by decide, by decide, rfl, rfl⟩ ?_
        rw [if_pos c1]
        refine tf_go hx ftX11_letterOn 1 [true] 22 [some (.ref o), some (.int (nI b1)), some (.int (nI k1))] [] S rfl ⟨by decide, by decide, rfl⟩ ⟨trivial, (by decide)⟩ ?_
        refine tf_go hx ftX11_letterOn 8 [] 33 [some (.ref o), some (.int (nI b1)), some (.int (nI k1))] [.int (S (tf_rf G o 1) (Int32.toNatClampNeg ((30 * (nI b1)) + (nI k1))))] S rfl ⟨by decide, by decide, rfl⟩ ⟨⟨trivial, ⟨by first | assumption | rfl | decide | omega, by first | assumption | rfl | decide | omega⟩⟩, ⟨Or.inl (by first | assumption | rfl | decide | omega), by first | assumption | exact tf_in (n := ((30 * b1) + k1)) (tf_add (a := (30 * b1)) (b := k1) (tf_mul (a := 30) (b := b1) (rfl : (30 : Int32) = nI 30) rfl) rfl) (by first | assumption | rfl) (by omega) (by decide)⟩⟩ ?_
        rw [show (S (tf_rf G o 1) (Int32.toNatClampNeg ((30 * (nI b1)) + (nI k1)))) = nI (A.1 ((30 * b1) + k1)) from (tf_rd hs (tf_add (a := (30 * b1)) (b := k1) (tf_mul (a := 30) (b := b1) (rfl : (30 : Int32) = nI 30) rfl) rfl) (by omega))]
        refine tf_go hx ftX11_letterOn 3 [false] 54 [some (.ref o), some (.int (nI b1)), some (.int (nI k1))] [.int (-9)] S rfl ⟨by decide, by decide, rfl⟩ ⟨trivial, (tf_neF (a := (A.1 ((30 * b1) + k1))) (b := 0) rfl (rfl : (0 : Int32) = nI 0) (by have := hb ((30 * b1) + k1); omega))⟩ ?_
        exact tf_ret ftX11_letterOn hR rfl ⟨by decide, by decide⟩ rfl rfl rfl
      · rw [if_neg e1]
        refine ⟨S, tf_Fn_of (own := RX11) false ⟨by decide, rfl, by decide⟩ (Nat.le_of_ble_eq_true rfl) trivial (fun x hx hR => ?_), hM, tf_fm_id⟩
        show tf_K x 0 0 G S 0 [some (.ref o), some (.int (nI b1)), some (.int (nI k1))] []
        refine tf_go hx ftX11_letterOn 1 [] 1 [some (.ref o), some (.int (nI b1)), some (.int (nI k1))] [.int (nI b1)] S rfl ⟨by decide, by decide, rfl⟩ trivial ?_
        refine tf_cS hx ftX11_letterOn (nx := 4) (As := [.int (nI b1)]) (rest := []) (st2 := [.int (if ¬ (nI b1) < 0 ∧ ¬ 4 ≤ (nI b1) then 1 else 0)]) (m_isBoard (nI b1)) rfl lX11_40 rfl ⟨rfl, by decide, by decide, by decide, rfl, rfl⟩ ?_
        rw [if_pos c0]
        refine tf_go hx ftX11_letterOn 1 [false] 7 [some (.ref o), some (.int (nI b1)), some (.int (nI k1))] [] S rfl ⟨by decide, by decide, rfl⟩ ⟨trivial, (by decide)⟩ ?_
        refine tf_go hx ftX11_letterOn 1 [] 8 [some (.ref o), some (.int (nI b1)), some (.int (nI k1))] [.int (nI k1)] S rfl ⟨by decide, by decide, rfl⟩ trivial ?_
        refine tf_cS hx ftX11_letterOn (nx := 11) (As := [.int (nI k1)]) (rest := []) (st2 := [.int (if ¬ (nI k1) < 0 ∧ ¬ 30 ≤ (nI k1) then 1 else 0)]) (m_isKey (nI k1)) rfl lX11_55 rfl ⟨rfl, by decide, by decide, by decide, rfl, rfl⟩ ?_
        rw [if_pos c1]
        refine tf_go hx ftX11_letterOn 1 [true] 22 [some (.ref o), some (.int (nI b1)), some (.int (nI k1))] [] S rfl ⟨by decide, by decide, rfl⟩ ⟨trivial, (by decide)⟩ ?_
        refine tf_go hx ftX11_letterOn 8 [] 33 [some (.ref o), some (.int (nI b1)), some (.int (nI k1))] [.int (S (tf_rf G o 1) (Int32.toNatClampNeg ((30 * (nI b1)) + (nI k1))))] S rfl ⟨by decide, by decide, rfl⟩ ⟨⟨trivial, ⟨by first | assumption | rfl | decide | omega, by first | assumption | rfl | decide | omega⟩⟩, ⟨Or.inl (by first | assumption | rfl | decide | omega), by first | assumption | exact tf_in (n := ((30 * b1) + k1)) (tf_add (a := (30 * b1)) (b := k1) (tf_mul (a := 30) (b := b1) (rfl : (30 : Int32) = nI 30) rfl) rfl) (by first | assumption | rfl) (by omega) (by decide)⟩⟩ ?_
        rw [show (S (tf_rf G o 1) (Int32.toNatClampNeg ((30 * (nI b1)) + (nI k1)))) = nI (A.1 ((30 * b1) + k1)) from (tf_rd hs (tf_add (a := (30 * b1)) (b := k1) (tf_mul (a := 30) (b := b1) (rfl : (30 : Int32) = nI 30) rfl) rfl) (by omega))]
        refine tf_go hx ftX11_letterOn 1 [true] 41 [some (.ref o), some (.int (nI b1)), some (.int (nI k1))] [] S rfl ⟨by decide, by decide, rfl⟩ ⟨trivial, (tf_eqF (a := (A.1 ((30 * b1) + k1))) (b := 0) rfl (rfl : (0 : Int32) = nI 0) (by have := hb ((30 * b1) + k1); omega) (by have := hb ((30 * b1) + k1); omega) (by have := hb ((30 * b1) + k1); omega))⟩ ?_
        refine tf_go hx ftX11_letterOn 10 [] 54 [some (.ref o), some (.int (nI b1)), some (.int (nI k1))] [.int ((S (tf_rf G o 1) (Int32.toNatClampNeg ((30 * (nI b1)) + (nI k1)))) - 1)] S rfl ⟨by decide, by decide, rfl⟩ ⟨⟨trivial, ⟨by first | assumption | rfl | decide | omega, by first | assumption | rfl | decide | omega⟩⟩, ⟨Or.inl (by first | assumption | rfl | decide | omega), by first | assumption | exact tf_in (n := ((30 * b1) + k1)) (tf_add (a := (30 * b1)) (b := k1) (tf_mul (a := 30) (b := b1) (rfl : (30 : Int32) = nI 30) rfl) rfl) (by first | assumption | rfl) (by omega) (by decide)⟩⟩ ?_
        rw [show ((S (tf_rf G o 1) (Int32.toNatClampNeg ((30 * (nI b1)) + (nI k1)))) - 1) = nI ((A.1 ((30 * b1) + k1)) - 1) from (tf_sub (a := (A.1 ((30 * b1) + k1))) (b := 1) (tf_rd hs (tf_add (a := (30 * b1)) (b := k1) (tf_mul (a := 30) (b := b1) (rfl : (30 : Int32) = nI 30) rfl) rfl) (by omega)) (rfl : (1 : Int32) = nI 1) (by have := hb ((30 * b1) + k1); omega))]
        exact tf_ret ftX11_letterOn hR rfl ⟨by decide, by decide⟩ rfl rfl rfl
    · rw [if_neg (fun h => c1 h.2)]
      refine ⟨tf_rfS G S o 1, tf_Fn_of (own := RX11) false ⟨by decide, rfl, by decide⟩ (Nat.le_of_ble_eq_true rfl) trivial (fun x hx hR => ?_), tf_ms_ref ho hd hM 1, tf_fm_0⟩
      show tf_K x 0 0 G S 0 [some (.ref o), some (.int b), some (.int k)] []
      refine tf_go hx ftX11_letterOn 1 [] 1 [some (.ref o), some (.int b), some (.int k)] [.int b] S rfl ⟨by decide, by decide, rfl⟩ trivial ?_
      refine tf_cS hx ftX11_letterOn (nx := 4) (As := [.int b]) (rest := []) (st2 := [.int (if ¬ b < 0 ∧ ¬ 4 ≤ b then 1 else 0)]) (m_isBoard b) rfl lX11_40 rfl ⟨rfl, by decide, by decide, by decide, rfl, rfl⟩ ?_
      rw [if_pos c0]
      refine tf_go hx ftX11_letterOn 1 [false] 7 [some (.ref o), some (.int b), some (.int k)] [] S rfl ⟨by decide, by decide, rfl⟩ ⟨trivial, (by decide)⟩ ?_
      refine tf_go hx ftX11_letterOn 1 [] 8 [some (.ref o), some (.int b), some (.int k)] [.int k] S rfl ⟨by decide, by decide, rfl⟩ trivial ?_
      refine tf_cS hx ftX11_letterOn (nx := 11) (As := [.int k]) (rest := []) (st2 := [.int (if ¬ k < 0 ∧ ¬ 30 ≤ k then 1 else 0)]) (m_isKey k) rfl lX11_55 rfl ⟨rfl, by decide, by decide, by decide, rfl, rfl⟩ ?_
      rw [if_neg c1]
      refine tf_go hx ftX11_letterOn 1 [false] 14 [some (.ref o), some (.int b), some (.int k)] [] S rfl ⟨by decide, by decide, rfl⟩ ⟨trivial, (by decide)⟩ ?_
      refine tf_go hx ftX11_letterOn 2 [] 16 [some (.ref o), some (.int b), some (.int k)] [.int (-1), .ref o] S rfl ⟨by decide, by decide, rfl⟩ trivial ?_
      refine tf_cV hx ftX11_letterOn (nx := 19) (As := [.int (-1)]) (rest := []) (st2 := [.int (-1)]) (m_ref1 ho) rfl lX11_26 (by first | assumption | rfl | decide) rfl ⟨rfl, by decide, by decide, by decide, rfl, rfl⟩ ?_
      refine tf_go hx ftX11_letterOn 1 [] 54 [some (.ref o), some (.int b), some (.int k)] [.int (-1)] (tf_rfS G S o 1) rfl ⟨by decide, by decide, rfl⟩ trivial ?_
      exact tf_ret ftX11_letterOn hR rfl ⟨by decide, by decide⟩ rfl rfl rfl
  · rw [if_neg (fun h => c0 h.1)]
    refine ⟨tf_rfS G S o 1, tf_Fn_of (own := RX11) false ⟨by decide, rfl, by decide⟩ (Nat.le_of_ble_eq_true rfl) trivial (fun x hx hR => ?_), tf_ms_ref ho hd hM 1, tf_fm_0⟩
    show tf_K x 0 0 G S 0 [some (.ref o), some (.int b), some (.int k)] []
    refine tf_go hx ftX11_letterOn 1 [] 1 [some (.ref o), some (.int b), some (.int k)] [.int b] S rfl ⟨by decide, by decide, rfl⟩ trivial ?_
    refine tf_cS hx ftX11_letterOn (nx := 4) (As := [.int b]) (rest := []) (st2 := [.int (if ¬ b < 0 ∧ ¬ 4 ≤ b then 1 else 0)]) (m_isBoard b) rfl lX11_40 rfl ⟨rfl, by decide, by decide, by decide, rfl, rfl⟩ ?_
    rw [if_neg c0]
    refine tf_go hx ftX11_letterOn 1 [true] 14 [some (.ref o), some (.int b), some (.int k)] [] S rfl ⟨by decide, by decide, rfl⟩ ⟨trivial, (by decide)⟩ ?_
    refine tf_go hx ftX11_letterOn 2 [] 16 [some (.ref o), some (.int b), some (.int k)] [.int (-1), .ref o] S rfl ⟨by decide, by decide, rfl⟩ trivial ?_
    refine tf_cV hx ftX11_letterOn (nx := 19) (As := [.int (-1)]) (rest := []) (st2 := [.int (-1)]) (m_ref1 ho) rfl lX11_26 (by first | assumption | rfl | decide) rfl ⟨rfl, by decide, by decide, by decide, rfl, rfl⟩ ?_
    refine tf_go hx ftX11_letterOn 1 [] 54 [some (.ref o), some (.int b), some (.int k)] [.int (-1)] (tf_rfS G S o 1) rfl ⟨by decide, by decide, rfl⟩ trivial ?_
    exact tf_ret ftX11_letterOn hR rfl ⟨by decide, by decide⟩ rfl rfl rfl

set_option maxHeartbeats 2000000 in
theorem p_fingerOf {G : tf_G} {S : tf_Sg} {o : Nat} {A : tf_A} (k : Int32) (t : Nat) (ho : tf_mo G o) (hd : tf_md G o) (hA : tf_okA A) (hM : tf_ms G S o A) (ht : t < 2) : tf_pm mX11_fingerOf 3 G S o [.ref o, .int k, .int (nI t)] (s_fingerOf A k t) := by
  obtain ⟨h1, ⟨r0, t0, n0⟩, ⟨r1, t1, n1⟩, ⟨r2, t2, n2⟩, ⟨r4, t4, n4⟩⟩ := id ho
  obtain ⟨hg, hb, hA3, hA4, hA5, hA6⟩ := id hA
  have hs := hM.1
  have hf : tf_sf G S o A.1 := ⟨hM.1, hb⟩
  obtain ⟨⟨g1, g2, g3, g4⟩, g5, g6, g7, g8, g9, g10, g11⟩ := id hg
  unfold s_fingerOf
  by_cases c0 : ¬ k < 0 ∧ ¬ 30 ≤ k
  · rw [if_pos c0]
    obtain ⟨k1, k1_lt, k1_eq, k1_cl⟩ := tf_ok_nI (N := 30) (show tf_ok k _ from c0) rfl (by decide)
    try rw [k1_cl]
    subst k1_eq
    refine ⟨S, tf_Fn_of (own := RX11) false ⟨by decide, rfl, by decide⟩ (Nat.le_of_ble_eq_true rfl) trivial (fun x hx hR => ?_), hM, tf_fm_id⟩
    show tf_K x 0 0 G S 0 [some (.ref o), some (.int (nI k1)), some (.int (nI t))] []
    refine tf_go hx ftX11_fingerOf 1 [] 1 [some (.ref o), some (.int (nI k1)), some (.int (nI t))] [.int (nI k1)] S rfl ⟨by decide, by decide, rfl⟩ trivial ?_
    refine tf_cS hx ftX11_fingerOf (nx := 4) (As := [.int (nI k1)]) (rest := []) (st2 := [.int (if ¬ (nI k1) < 0 ∧ ¬ 30 ≤ (nI k1) then 1 else 0)]) (m_isKey (nI k1)) rfl lX11_55 rfl ⟨rfl, by decide, by decide, by decide, rfl, rfl⟩ ?_
    rw [if_pos c0]
    refine tf_go hx ftX11_fingerOf 1 [false] 7 [some (.ref o), some (.int (nI k1)), some (.int (nI t))] [] S rfl ⟨by decide, by decide, rfl⟩ ⟨trivial, (by decide)⟩ ?_
    refine tf_go hx ftX11_fingerOf 2 [] 9 [some (.ref o), some (.int (nI k1)), some (.int (nI t))] [.int (nI t), .int (nI k1)] S rfl ⟨by decide, by decide, rfl⟩ trivial ?_
    refine tf_cS hx ftX11_fingerOf (nx := 12) (As := [.int (nI k1), .int (nI t)]) (rest := []) (st2 := [.int (nI (tf_fi k1 t))]) (m_finger k1 t (by omega) ht) rfl lX11_58 rfl ⟨rfl, by decide, by decide, by decide, rfl, rfl⟩ ?_
    refine tf_go hx ftX11_fingerOf 1 [] 20 [some (.ref o), some (.int (nI k1)), some (.int (nI t))] [.int (nI (tf_fi k1 t))] S rfl ⟨by decide, by decide, rfl⟩ trivial ?_
    exact tf_ret ftX11_fingerOf hR rfl ⟨by decide, by decide⟩ rfl rfl rfl
  · rw [if_neg (fun h => c0 h)]
    refine ⟨tf_rfS G S o 1, tf_Fn_of (own := RX11) false ⟨by decide, rfl, by decide⟩ (Nat.le_of_ble_eq_true rfl) trivial (fun x hx hR => ?_), tf_ms_ref ho hd hM 1, tf_fm_0⟩
    show tf_K x 0 0 G S 0 [some (.ref o), some (.int k), some (.int (nI t))] []
    refine tf_go hx ftX11_fingerOf 1 [] 1 [some (.ref o), some (.int k), some (.int (nI t))] [.int k] S rfl ⟨by decide, by decide, rfl⟩ trivial ?_
    refine tf_cS hx ftX11_fingerOf (nx := 4) (As := [.int k]) (rest := []) (st2 := [.int (if ¬ k < 0 ∧ ¬ 30 ≤ k then 1 else 0)]) (m_isKey k) rfl lX11_55 rfl ⟨rfl, by decide, by decide, by decide, rfl, rfl⟩ ?_
    rw [if_neg c0]
    refine tf_go hx ftX11_fingerOf 1 [true] 15 [some (.ref o), some (.int k), some (.int (nI t))] [] S rfl ⟨by decide, by decide, rfl⟩ ⟨trivial, (by decide)⟩ ?_
    refine tf_go hx ftX11_fingerOf 2 [] 17 [some (.ref o), some (.int k), some (.int (nI t))] [.int (-1), .ref o] S rfl ⟨by decide, by decide, rfl⟩ trivial ?_
    refine tf_cV hx ftX11_fingerOf (nx := 20) (As := [.int (-1)]) (rest := []) (st2 := [.int (-1)]) (m_ref1 ho) rfl lX11_26 (by first | assumption | rfl | decide) rfl ⟨rfl, by decide, by decide, by decide, rfl, rfl⟩ ?_
    exact tf_ret ftX11_fingerOf hR rfl ⟨by decide, by decide⟩ rfl rfl rfl

set_option maxHeartbeats 2000000 in
theorem p_gap {G : tf_G} {S : tf_Sg} {o : Nat} {A : tf_A} (h b p q : Int32) (ho : tf_mo G o) (hd : tf_md G o) (hA : tf_okA A) (hM : tf_ms G S o A)  : tf_pm mX11_gap 4 G S o [.ref o, .int h, .int b, .int p, .int q] (s_gap A h b p q) := by
  obtain ⟨h1, ⟨r0, t0, n0⟩, ⟨r1, t1, n1⟩, ⟨r2, t2, n2⟩, ⟨r4, t4, n4⟩⟩ := id ho
  obtain ⟨hg, hb, hA3, hA4, hA5, hA6⟩ := id hA
  have hs := hM.1
  have hf : tf_sf G S o A.1 := ⟨hM.1, hb⟩
  obtain ⟨⟨g1, g2, g3, g4⟩, g5, g6, g7, g8, g9, g10, g11⟩ := id hg
  unfold s_gap
  by_cases c0 : ¬ h < 0 ∧ ¬ 4 ≤ h
  · by_cases c1 : ¬ b < 0 ∧ ¬ 4 ≤ b
    · by_cases c2 : ¬ p < 0 ∧ ¬ 30 ≤ p
      · by_cases c3 : ¬ q < 0 ∧ ¬ 30 ≤ q
        · rw [if_pos ⟨c0, c1, c2, c3⟩]
          obtain ⟨h1, h1_lt, h1_eq, h1_cl⟩ := tf_ok_nI (N := 4) (show tf_ok h _ from c0) rfl (by decide)
          try rw [h1_cl]
          obtain ⟨b1, b1_lt, b1_eq, b1_cl⟩ := tf_ok_nI (N := 4) (show tf_ok b _ from c1) rfl (by decide)
          try rw [b1_cl]
          obtain ⟨p1, p1_lt, p1_eq, p1_cl⟩ := tf_ok_nI (N := 30) (show tf_ok p _ from c2) rfl (by decide)
          try rw [p1_cl]
          obtain ⟨q1, q1_lt, q1_eq, q1_cl⟩ := tf_ok_nI (N := 30) (show tf_ok q _ from c3) rfl (by decide)
          try rw [q1_cl]
          subst h1_eq
          subst b1_eq
          subst p1_eq
          subst q1_eq
          refine ⟨S, tf_Fn_of (own := RX11) false ⟨by decide, rfl, by decide⟩ (Nat.le_of_ble_eq_true rfl) trivial (fun x hx hR => ?_), hM, tf_fm_id⟩
          show tf_K x 0 0 G S 0 [some (.ref o), some (.int (nI h1)), some (.int (nI b1)), some (.int (nI p1)), some (.int (nI q1))] []
          refine tf_go hx ftX11_gap 1 [] 1 [some (.ref o), some (.int (nI h1)), some (.int (nI b1)), some (.int (nI p1)), some (.int (nI q1))] [.int (nI h1)] S rfl ⟨by decide, by decide, rfl⟩ trivial ?_
          refine tf_cS hx ftX11_gap (nx := 4) (As := [.int (nI h1)]) (rest := []) (st2 := [.int (if ¬ (nI h1) < 0 ∧ ¬ 4 ≤ (nI h1) then 1 else 0)]) (m_isHand (nI h1)) rfl lX11_62 rfl ⟨rfl, by decide, by decide, by decide, rfl, rfl⟩ ?_
          rw [if_pos c0]
          refine tf_go hx ftX11_gap 1 [false] 7 [some (.ref o), some (.int (nI h1)), some (.int (nI b1)), some (.int (nI p1)), some (.int (nI q1))] [] S rfl ⟨by decide, by decide, rfl⟩ ⟨trivial, (by decide)⟩ ?_
          refine tf_go hx ftX11_gap 1 [] 8 [some (.ref o), some (.int (nI h1)), some (.int (nI b1)), some (.int (nI p1)), some (.int (nI q1))] [.int (nI b1)] S rfl ⟨by decide, by decide, rfl⟩ trivial ?_
          refine tf_cS hx ftX11_gap (nx := 11) (As := [.int (nI b1)]) (rest := []) (st2 := [.int (if ¬ (nI b1) < 0 ∧ ¬ 4 ≤ (nI b1) then 1 else 0)]) (m_isBoard (nI b1)) rfl lX11_40 rfl ⟨rfl, by decide, by decide, by decide, rfl, rfl⟩ ?_
          rw [if_pos c1]
          refine tf_go hx ftX11_gap 1 [false] 14 [some (.ref o), some (.int (nI h1)), some (.int (nI b1)), some (.int (nI p1)), some (.int (nI q1))] [] S rfl ⟨by decide, by decide, rfl⟩ ⟨trivial, (by decide)⟩ ?_
          refine tf_go hx ftX11_gap 1 [] 15 [some (.ref o), some (.int (nI h1)), some (.int (nI b1)), some (.int (nI p1)), some (.int (nI q1))] [.int (nI p1)] S rfl ⟨by decide, by decide, rfl⟩ trivial ?_
          refine tf_cS hx ftX11_gap (nx := 18) (As := [.int (nI p1)]) (rest := []) (st2 := [.int (if ¬ (nI p1) < 0 ∧ ¬ 30 ≤ (nI p1) then 1 else 0)]) (m_isKey (nI p1)) rfl lX11_55 rfl ⟨rfl, by decide, by decide, by decide, rfl, rfl⟩ ?_
          rw [if_pos c2]
          refine tf_go hx ftX11_gap 1 [false] 21 [some (.ref o), some (.int (nI h1)), some (.int (nI b1)), some (.int (nI p1)), some (.int (nI q1))] [] S rfl ⟨by decide, by decide, rfl⟩ ⟨trivial, (by decide)⟩ ?_
          refine tf_go hx ftX11_gap 1 [] 23 [some (.ref o), some (.int (nI h1)), some (.int (nI b1)), some (.int (nI p1)), some (.int (nI q1))] [.int (nI q1)] S rfl ⟨by decide, by decide, rfl⟩ trivial ?_
          refine tf_cS hx ftX11_gap (nx := 26) (As := [.int (nI q1)]) (rest := []) (st2 := [.int (if ¬ (nI q1) < 0 ∧ ¬ 30 ≤ (nI q1) then 1 else 0)]) (m_isKey (nI q1)) rfl lX11_55 rfl ⟨rfl, by decide, by decide, by decide, rfl, rfl⟩ ?_
          rw [if_pos c3]
          refine tf_go hx ftX11_gap 1 [false] 29 [some (.ref o), some (.int (nI h1)), some (.int (nI b1)), some (.int (nI p1)), some (.int (nI q1))] [] S rfl ⟨by decide, by decide, rfl⟩ ⟨trivial, (by decide)⟩ ?_
          refine tf_go hx ftX11_gap 5 [] 35 [some (.ref o), some (.int (nI h1)), some (.int (nI b1)), some (.int (nI p1)), some (.int (nI q1))] [.int 0, .int (nI q1), .int (nI p1), .int (nI h1), .ref o] S rfl ⟨by decide, by decide, rfl⟩ trivial ?_
          refine tf_cV hx ftX11_gap (nx := 38) (As := [.int (nI h1), .int (nI p1), .int (nI q1), .int 0]) (rest := []) (st2 := [.int (nI (tf_ga A.1 h1 p1 q1 0))]) (m_gapOf h1 p1 q1 0 ho hf h1_lt p1_lt q1_lt (by decide)) rfl lX11_76 (by first | assumption | rfl | decide) rfl ⟨rfl, by decide, by decide, by decide, rfl, rfl⟩ ?_
          refine tf_go hx ftX11_gap 1 [] 46 [some (.ref o), some (.int (nI h1)), some (.int (nI b1)), some (.int (nI p1)), some (.int (nI q1))] [.int (nI (tf_ga A.1 h1 p1 q1 0))] S rfl ⟨by decide, by decide, rfl⟩ trivial ?_
          exact tf_ret ftX11_gap hR rfl ⟨by decide, by decide⟩ rfl rfl rfl
        · rw [if_neg (fun h => c3 h.2.2.2)]
          refine ⟨tf_rfS G S o 1, tf_Fn_of (own := RX11) false ⟨by decide, rfl, by decide⟩ (Nat.le_of_ble_eq_true rfl) trivial (fun x hx hR => ?_), tf_ms_ref ho hd hM 1, tf_fm_0⟩
          show tf_K x 0 0 G S 0 [some (.ref o), some (.int h), some (.int b), some (.int p), some (.int q)] []
          refine tf_go hx ftX11_gap 1 [] 1 [some (.ref o), some (.int h), some (.int b), some (.int p), some (.int q)] [.int h] S rfl ⟨by decide, by decide, rfl⟩ trivial ?_
          refine tf_cS hx ftX11_gap (nx := 4) (As := [.int h]) (rest := []) (st2 := [.int (if ¬ h < 0 ∧ ¬ 4 ≤ h then 1 else 0)]) (m_isHand h) rfl lX11_62 rfl ⟨rfl, by decide, by decide, by decide, rfl, rfl⟩ ?_
          rw [if_pos c0]
          refine tf_go hx ftX11_gap 1 [false] 7 [some (.ref o), some (.int h), some (.int b), some (.int p), some (.int q)] [] S rfl ⟨by decide, by decide, rfl⟩ ⟨trivial, (by decide)⟩ ?_
          refine tf_go hx ftX11_gap 1 [] 8 [some (.ref o), some (.int h), some (.int b), some (.int p), some (.int q)] [.int b] S rfl ⟨by decide, by decide, rfl⟩ trivial ?_
          refine tf_cS hx ftX11_gap (nx := 11) (As := [.int b]) (rest := []) (st2 := [.int (if ¬ b < 0 ∧ ¬ 4 ≤ b then 1 else 0)]) (m_isBoard b) rfl lX11_40 rfl ⟨rfl, by decide, by decide, by decide, rfl, rfl⟩ ?_
          rw [if_pos c1]
          refine tf_go hx ftX11_gap 1 [false] 14 [some (.ref o), some (.int h), some (.int b), some (.int p), some (.int q)] [] S rfl ⟨by decide, by decide, rfl⟩ ⟨trivial, (by decide)⟩ ?_
          refine tf_go hx ftX11_gap 1 [] 15 [some (.ref o), some (.int h), some (.int b), some (.int p), some (.int q)] [.int p] S rfl ⟨by decide, by decide, rfl⟩ trivial ?_
          refine tf_cS hx ftX11_gap (nx := 18) (As := [.int p]) (rest := []) (st2 := [.int (if ¬ p < 0 ∧ ¬ 30 ≤ p then 1 else 0)]) (m_isKey p) rfl lX11_55 rfl ⟨rfl, by decide, by decide, by decide, rfl, rfl⟩ ?_
          rw [if_pos c2]
          refine tf_go hx ftX11_gap 1 [false] 21 [some (.ref o), some (.int h), some (.int b), some (.int p), some (.int q)] [] S rfl ⟨by decide, by decide, rfl⟩ ⟨trivial, (by decide)⟩ ?_
          refine tf_go hx ftX11_gap 1 [] 23 [some (.ref o), some (.int h), some (.int b), some (.int p), some (.int q)] [.int q] S rfl ⟨by decide, by decide, rfl⟩ trivial ?_
          refine tf_cS hx ftX11_gap (nx := 26) (As := [.int q]) (rest := []) (st2 := [.int (if ¬ q < 0 ∧ ¬ 30 ≤ q then 1 else 0)]) (m_isKey q) rfl lX11_55 rfl ⟨rfl, by decide, by decide, by decide, rfl, rfl⟩ ?_
          rw [if_neg c3]
          refine tf_go hx ftX11_gap 1 [true] 41 [some (.ref o), some (.int h), some (.int b), some (.int p), some (.int q)] [] S rfl ⟨by decide, by decide, rfl⟩ ⟨trivial, (by decide)⟩ ?_
          refine tf_go hx ftX11_gap 2 [] 43 [some (.ref o), some (.int h), some (.int b), some (.int p), some (.int q)] [.int (-1), .ref o] S rfl ⟨by decide, by decide, rfl⟩ trivial ?_
          refine tf_cV hx ftX11_gap (nx := 46) (As := [.int (-1)]) (rest := []) (st2 := [.int (-1)]) (m_ref1 ho) rfl lX11_26 (by first | assumption | rfl | decide) rfl ⟨rfl, by decide, by decide, by decide, rfl, rfl⟩ ?_
          exact tf_ret ftX11_gap hR rfl ⟨by decide, by decide⟩ rfl rfl rfl
      · rw [if_neg (fun h => c2 h.2.2.1)]
        refine ⟨tf_rfS G S o 1, tf_Fn_of (own := RX11) false ⟨by decide, rfl, by decide⟩ (Nat.le_of_ble_eq_true rfl) trivial (fun x hx hR => ?_), tf_ms_ref ho hd hM 1, tf_fm_0⟩
        show tf_K x 0 0 G S 0 [some (.ref o), some (.int h), some (.int b), some (.int p), some (.int q)] []
        refine tf_go hx ftX11_gap 1 [] 1 [some (.ref o), some (.int h), some (.int b), some (.int p), some (.int q)] [.int h] S rfl ⟨by decide, by decide, rfl⟩ trivial ?_
        refine tf_cS hx ftX11_gap (nx := 4) (As := [.int h]) (rest := []) (st2 := [.int (if ¬ h < 0 ∧ ¬ 4 ≤ h then 1 else 0)]) (m_isHand h) rfl lX11_62 rfl ⟨rfl, by decide, by decide, by decide, rfl, rfl⟩ ?_
        rw [if_pos c0]
        refine tf_go hx ftX11_gap 1 [false] 7 [some (.ref o), some (.int h), some (.int b), some (.int p), some (.int q)] [] S rfl ⟨by decide, by decide, rfl⟩ ⟨trivial, (by decide)⟩ ?_
        refine tf_go hx ftX11_gap 1 [] 8 [some (.ref o), some (.int h), some (.int b), some (.int p), some (.int q)] [.int b] S rfl ⟨by decide, by decide, rfl⟩ trivial ?_
        refine tf_cS hx ftX11_gap (nx := 11) (As := [.int b]) (rest := []) (st2 := [.int (if ¬ b < 0 ∧ ¬ 4 ≤ b then 1 else 0)]) (m_isBoard b) rfl lX11_40 rfl ⟨rfl, by decide, by decide, by decide, rfl, rfl⟩ ?_
        rw [if_pos c1]
        refine tf_go hx ftX11_gap 1 [false] 14 [some (.ref o), some (.int h), some (.int b), some (.int p), some (.int q)] [] S rfl ⟨by decide, by decide, rfl⟩ ⟨trivial, (by decide)⟩ ?_
        refine tf_go hx ftX11_gap 1 [] 15 [some (.ref o), some (.int h), some (.int b), some (.int p), some (.int q)] [.int p] S rfl ⟨by decide, by decide, rfl⟩ trivial ?_
        refine tf_cS hx ftX11_gap (nx := 18) (As := [.int p]) (rest := []) (st2 := [.int (if ¬ p < 0 ∧ ¬ 30 ≤ p then 1 else 0)]) (m_isKey p) rfl lX11_55 rfl ⟨rfl, by decide, by decide, by decide, rfl, rfl⟩ ?_
        rw [if_neg c2]
        refine tf_go hx ftX11_gap 1 [true] 41 [some (.ref o), some (.int h), some (.int b), some (.int p), some (.int q)] [] S rfl ⟨by decide, by decide, rfl⟩ ⟨trivial, (by decide)⟩ ?_
        refine tf_go hx ftX11_gap 2 [] 43 [some (.ref o), some (.int h), some (.int b), some (.int p), some (.int q)] [.int (-1), .ref o] S rfl ⟨by decide, by decide, rfl⟩ trivial ?_
        refine tf_cV hx ftX11_gap (nx := 46) (As := [.int (-1)]) (rest := []) (st2 := [.int (-1)]) (m_ref1 ho) rfl lX11_26 (by first | assumption | rfl | decide) rfl ⟨rfl, by decide, by decide, by decide, rfl, rfl⟩ ?_
        exact tf_ret ftX11_gap hR rfl ⟨by decide, by decide⟩ rfl rfl rfl
    · rw [if_neg (fun h => c1 h.2.1)]
      refine ⟨tf_rfS G S o 1, tf_Fn_of (own := RX11) false ⟨by decide, rfl, by decide⟩ (Nat.le_of_ble_eq_true rfl) trivial (fun x hx hR => ?_), tf_ms_ref ho hd hM 1, tf_fm_0⟩
      show tf_K x 0 0 G S 0 [some (.ref o), some (.int h), some (.int b), some (.int p), some (.int q)] []
      refine tf_go hx ftX11_gap 1 [] 1 [some (.ref o), some (.int h), some (.int b), some (.int p), some (.int q)] [.int h] S rfl ⟨by decide, by decide, rfl⟩ trivial ?_
      refine tf_cS hx ftX11_gap (nx := 4) (As := [.int h]) (rest := []) (st2 := [.int (if ¬ h < 0 ∧ ¬ 4 ≤ h then 1 else 0)]) (m_isHand h) rfl lX11_62 rfl ⟨rfl, by decide, by decide, by decide, rfl, rfl⟩ ?_
      rw [if_pos c0]
      refine tf_go hx ftX11_gap 1 [false] 7 [some (.ref o), some (.int h), some (.int b), some (.int p), some (.int q)] [] S rfl ⟨by decide, by decide, rfl⟩ ⟨trivial, (by decide)⟩ ?_
      refine tf_go hx ftX11_gap 1 [] 8 [some (.ref o), some (.int h), some (.int b), some (.int p), some (.int q)] [.int b] S rfl ⟨by decide, by decide, rfl⟩ trivial ?_
      refine tf_cS hx ftX11_gap (nx := 11) (As := [.int b]) (rest := []) (st2 := [.int (if ¬ b < 0 ∧ ¬ 4 ≤ b then 1 else 0)]) (m_isBoard b) rfl lX11_40 rfl ⟨rfl, by decide, by decide, by decide, rfl, rfl⟩ ?_
      rw [if_neg c1]
      refine tf_go hx ftX11_gap 1 [true] 41 [some (.ref o), some (.int h), some (.int b), some (.int p), some (.int q)] [] S rfl ⟨by decide, by decide, rfl⟩ ⟨trivial, (by decide)⟩ ?_
      refine tf_go hx ftX11_gap 2 [] 43 [some (.ref o), some (.int h), some (.int b), some (.int p), some (.int q)] [.int (-1), .ref o] S rfl ⟨by decide, by decide, rfl⟩ trivial ?_
      refine tf_cV hx ftX11_gap (nx := 46) (As := [.int (-1)]) (rest := []) (st2 := [.int (-1)]) (m_ref1 ho) rfl lX11_26 (by first | assumption | rfl | decide) rfl ⟨rfl, by decide, by decide, by decide, rfl, rfl⟩ ?_
      exact tf_ret ftX11_gap hR rfl ⟨by decide, by decide⟩ rfl rfl rfl
  · rw [if_neg (fun h => c0 h.1)]
    refine ⟨tf_rfS G S o 1, tf_Fn_of (own := RX11) false ⟨by decide, rfl, by decide⟩ (Nat.le_of_ble_eq_true rfl) trivial (fun x hx hR => ?_), tf_ms_ref ho hd hM 1, tf_fm_0⟩
    show tf_K x 0 0 G S 0 [some (.ref o), some (.int h), some (.int b), some (.int p), some (.int q)] []
    refine tf_go hx ftX11_gap 1 [] 1 [some (.ref o), some (.int h), some (.int b), some (.int p), some (.int q)] [.int h] S rfl ⟨by decide, by decide, rfl⟩ trivial ?_
    refine tf_cS hx ftX11_gap (nx := 4) (As := [.int h]) (rest := []) (st2 := [.int (if ¬ h < 0 ∧ ¬ 4 ≤ h then 1 else 0)]) (m_isHand h) rfl lX11_62 rfl ⟨rfl, by decide, by decide, by decide, rfl, rfl⟩ ?_
    rw [if_neg c0]
    refine tf_go hx ftX11_gap 1 [true] 41 [some (.ref o), some (.int h), some (.int b), some (.int p), some (.int q)] [] S rfl ⟨by decide, by decide, rfl⟩ ⟨trivial, (by decide)⟩ ?_
    refine tf_go hx ftX11_gap 2 [] 43 [some (.ref o), some (.int h), some (.int b), some (.int p), some (.int q)] [.int (-1), .ref o] S rfl ⟨by decide, by decide, rfl⟩ trivial ?_
    refine tf_cV hx ftX11_gap (nx := 46) (As := [.int (-1)]) (rest := []) (st2 := [.int (-1)]) (m_ref1 ho) rfl lX11_26 (by first | assumption | rfl | decide) rfl ⟨rfl, by decide, by decide, by decide, rfl, rfl⟩ ?_
    exact tf_ret ftX11_gap hR rfl ⟨by decide, by decide⟩ rfl rfl rfl

set_option maxHeartbeats 2000000 in
theorem p_time {G : tf_G} {S : tf_Sg} {o : Nat} {A : tf_A} (h b : Int32) (t : Nat) (ho : tf_mo G o) (hd : tf_md G o) (hA : tf_okA A) (hM : tf_ms G S o A) (ht : t < 2) : tf_pm mX11_time 6 G S o [.ref o, .int h, .int b, .int (nI t)] (s_time A h b t) := by
  obtain ⟨h1, ⟨r0, t0, n0⟩, ⟨r1, t1, n1⟩, ⟨r2, t2, n2⟩, ⟨r4, t4, n4⟩⟩ := id ho
  obtain ⟨hg, hb, hA3, hA4, hA5, hA6⟩ := id hA
  have hs := hM.1
  have hf : tf_sf G S o A.1 := ⟨hM.1, hb⟩
  obtain ⟨⟨g1, g2, g3, g4⟩, g5, g6, g7, g8, g9, g10, g11⟩ := id hg
  unfold s_time
  by_cases c0 : ¬ h < 0 ∧ ¬ 4 ≤ h
  · by_cases c1 : ¬ b < 0 ∧ ¬ 4 ≤ b
    · rw [if_pos ⟨c0, c1⟩]
      obtain ⟨h1, h1_lt, h1_eq, h1_cl⟩ := tf_ok_nI (N := 4) (show tf_ok h _ from c0) rfl (by decide)
      try rw [h1_cl]
      obtain ⟨b1, b1_lt, b1_eq, b1_cl⟩ := tf_ok_nI (N := 4) (show tf_ok b _ from c1) rfl (by decide)
      try rw [b1_cl]
      subst h1_eq
      subst b1_eq
      refine ⟨S, tf_Fn_of (own := RX11) false ⟨by decide, rfl, by decide⟩ (Nat.le_of_ble_eq_true rfl) trivial (fun x hx hR => ?_), hM, tf_fm_id⟩
      show tf_K x 0 0 G S 0 [some (.ref o), some (.int (nI h1)), some (.int (nI b1)), some (.int (nI t))] []
      refine tf_go hx ftX11_time 1 [] 1 [some (.ref o), some (.int (nI h1)), some (.int (nI b1)), some (.int (nI t))] [.int (nI h1)] S rfl ⟨by decide, by decide, rfl⟩ trivial ?_
      refine tf_cS hx ftX11_time (nx := 4) (As := [.int (nI h1)]) (rest := []) (st2 := [.int (if ¬ (nI h1) < 0 ∧ ¬ 4 ≤ (nI h1) then 1 else 0)]) (m_isHand (nI h1)) rfl lX11_62 rfl ⟨rfl, by decide, by decide, by decide, rfl, rfl⟩ ?_
      rw [if_pos c0]
      refine tf_go hx ftX11_time 1 [false] 7 [some (.ref o), some (.int (nI h1)), some (.int (nI b1)), some (.int (nI t))] [] S rfl ⟨by decide, by decide, rfl⟩ ⟨trivial, (by decide)⟩ ?_
      refine tf_go hx ftX11_time 1 [] 8 [some (.ref o), some (.int (nI h1)), some (.int (nI b1)), some (.int (nI t))] [.int (nI b1)] S rfl ⟨by decide, by decide, rfl⟩ trivial ?_
      refine tf_cS hx ftX11_time (nx := 11) (As := [.int (nI b1)]) (rest := []) (st2 := [.int (if ¬ (nI b1) < 0 ∧ ¬ 4 ≤ (nI b1) then 1 else 0)]) (m_isBoard (nI b1)) rfl lX11_40 rfl ⟨rfl, by decide, by decide, by decide, rfl, rfl⟩ ?_
      rw [if_pos c1]
      refine tf_go hx ftX11_time 1 [false] 14 [some (.ref o), some (.int (nI h1)), some (.int (nI b1)), some (.int (nI t))] [] S rfl ⟨by decide, by decide, rfl⟩ ⟨trivial, (by decide)⟩ ?_
      refine tf_go hx ftX11_time 4 [] 18 [some (.ref o), some (.int (nI h1)), some (.int (nI b1)), some (.int (nI t))] [.int (nI t), .int (nI b1), .int (nI h1), .ref o] S rfl ⟨by decide, by decide, rfl⟩ trivial ?_
      refine tf_cV hx ftX11_time (nx := 21) (As := [.int (nI h1), .int (nI b1), .int (nI t)]) (rest := []) (st2 := [.int (nI (tf_tm A.1 h1 b1 t))]) (m_timeOf h1 b1 t ho hf hg h1_lt b1_lt ht) rfl lX11_92 (by first | assumption | rfl | decide) rfl ⟨rfl, by decide, by decide, by decide, rfl, rfl⟩ ?_
      refine tf_go hx ftX11_time 1 [] 29 [some (.ref o), some (.int (nI h1)), some (.int (nI b1)), some (.int (nI t))] [.int (nI (tf_tm A.1 h1 b1 t))] S rfl ⟨by decide, by decide, rfl⟩ trivial ?_
      exact tf_ret ftX11_time hR rfl ⟨by decide, by decide⟩ rfl rfl rfl
    · rw [if_neg (fun h => c1 h.2)]
      refine ⟨tf_rfS G S o 1, tf_Fn_of (own := RX11) false ⟨by decide, rfl, by decide⟩ (Nat.le_of_ble_eq_true rfl) trivial (fun x hx hR => ?_), tf_ms_ref ho hd hM 1, tf_fm_0⟩
      show tf_K x 0 0 G S 0 [some (.ref o), some (.int h), some (.int b), some (.int (nI t))] []
      refine tf_go hx ftX11_time 1 [] 1 [some (.ref o), some (.int h), some (.int b), some (.int (nI t))] [.int h] S rfl ⟨by decide, by decide, rfl⟩ trivial ?_
      refine tf_cS hx ftX11_time (nx := 4) (As := [.int h]) (rest := []) (st2 := [.int (if ¬ h < 0 ∧ ¬ 4 ≤ h then 1 else 0)]) (m_isHand h) rfl lX11_62 rfl ⟨rfl, by decide, by decide, by decide, rfl, rfl⟩ ?_
      rw [if_pos c0]
      refine tf_go hx ftX11_time 1 [false] 7 [some (.ref o), some (.int h), some (.int b), some (.int (nI t))] [] S rfl ⟨by decide, by decide, rfl⟩ ⟨trivial, (by decide)⟩ ?_
      refine tf_go hx ftX11_time 1 [] 8 [some (.ref o), some (.int h), some (.int b), some (.int (nI t))] [.int b] S rfl ⟨by decide, by decide, rfl⟩ trivial ?_
      refine tf_cS hx ftX11_time (nx := 11) (As := [.int b]) (rest := []) (st2 := [.int (if ¬ b < 0 ∧ ¬ 4 ≤ b then 1 else 0)]) (m_isBoard b) rfl lX11_40 rfl ⟨rfl, by decide, by decide, by decide, rfl, rfl⟩ ?_
      rw [if_neg c1]
      refine tf_go hx ftX11_time 1 [true] 24 [some (.ref o), some (.int h), some (.int b), some (.int (nI t))] [] S rfl ⟨by decide, by decide, rfl⟩ ⟨trivial, (by decide)⟩ ?_
      refine tf_go hx ftX11_time 2 [] 26 [some (.ref o), some (.int h), some (.int b), some (.int (nI t))] [.int (-1), .ref o] S rfl ⟨by decide, by decide, rfl⟩ trivial ?_
      refine tf_cV hx ftX11_time (nx := 29) (As := [.int (-1)]) (rest := []) (st2 := [.int (-1)]) (m_ref1 ho) rfl lX11_26 (by first | assumption | rfl | decide) rfl ⟨rfl, by decide, by decide, by decide, rfl, rfl⟩ ?_
      exact tf_ret ftX11_time hR rfl ⟨by decide, by decide⟩ rfl rfl rfl
  · rw [if_neg (fun h => c0 h.1)]
    refine ⟨tf_rfS G S o 1, tf_Fn_of (own := RX11) false ⟨by decide, rfl, by decide⟩ (Nat.le_of_ble_eq_true rfl) trivial (fun x hx hR => ?_), tf_ms_ref ho hd hM 1, tf_fm_0⟩
    show tf_K x 0 0 G S 0 [some (.ref o), some (.int h), some (.int b), some (.int (nI t))] []
    refine tf_go hx ftX11_time 1 [] 1 [some (.ref o), some (.int h), some (.int b), some (.int (nI t))] [.int h] S rfl ⟨by decide, by decide, rfl⟩ trivial ?_
    refine tf_cS hx ftX11_time (nx := 4) (As := [.int h]) (rest := []) (st2 := [.int (if ¬ h < 0 ∧ ¬ 4 ≤ h then 1 else 0)]) (m_isHand h) rfl lX11_62 rfl ⟨rfl, by decide, by decide, by decide, rfl, rfl⟩ ?_
    rw [if_neg c0]
    refine tf_go hx ftX11_time 1 [true] 24 [some (.ref o), some (.int h), some (.int b), some (.int (nI t))] [] S rfl ⟨by decide, by decide, rfl⟩ ⟨trivial, (by decide)⟩ ?_
    refine tf_go hx ftX11_time 2 [] 26 [some (.ref o), some (.int h), some (.int b), some (.int (nI t))] [.int (-1), .ref o] S rfl ⟨by decide, by decide, rfl⟩ trivial ?_
    refine tf_cV hx ftX11_time (nx := 29) (As := [.int (-1)]) (rest := []) (st2 := [.int (-1)]) (m_ref1 ho) rfl lX11_26 (by first | assumption | rfl | decide) rfl ⟨rfl, by decide, by decide, by decide, rfl, rfl⟩ ?_
    exact tf_ret ftX11_time hR rfl ⟨by decide, by decide⟩ rfl rfl rfl

set_option maxHeartbeats 2000000 in
theorem p_better {G : tf_G} {S : tf_Sg} {o : Nat} {A : tf_A} (h b : Int32) (ho : tf_mo G o) (hd : tf_md G o) (hA : tf_okA A) (hM : tf_ms G S o A)  : tf_pm mX11_better 7 G S o [.ref o, .int h, .int b] (s_better A h b) := by
  obtain ⟨h1, ⟨r0, t0, n0⟩, ⟨r1, t1, n1⟩, ⟨r2, t2, n2⟩, ⟨r4, t4, n4⟩⟩ := id ho
  obtain ⟨hg, hb, hA3, hA4, hA5, hA6⟩ := id hA
  have hs := hM.1
  have hf : tf_sf G S o A.1 := ⟨hM.1, hb⟩
  obtain ⟨⟨g1, g2, g3, g4⟩, g5, g6, g7, g8, g9, g10, g11⟩ := id hg
  unfold s_better
  by_cases c0 : ¬ h < 0 ∧ ¬ 4 ≤ h
  · by_cases c1 : ¬ b < 0 ∧ ¬ 4 ≤ b
    · rw [if_pos ⟨c0, c1⟩]
      obtain ⟨h1, h1_lt, h1_eq, h1_cl⟩ := tf_ok_nI (N := 4) (show tf_ok h _ from c0) rfl (by decide)
      try rw [h1_cl]
      obtain ⟨b1, b1_lt, b1_eq, b1_cl⟩ := tf_ok_nI (N := 4) (show tf_ok b _ from c1) rfl (by decide)
      try rw [b1_cl]
      subst h1_eq
      subst b1_eq
      refine ⟨S, tf_Fn_of (own := RX11) false ⟨by decide, rfl, by decide⟩ (Nat.le_of_ble_eq_true rfl) trivial (fun x hx hR => ?_), hM, tf_fm_id⟩
      show tf_K x 0 0 G S 0 [some (.ref o), some (.int (nI h1)), some (.int (nI b1))] []
      refine tf_go hx ftX11_better 1 [] 1 [some (.ref o), some (.int (nI h1)), some (.int (nI b1))] [.int (nI h1)] S rfl ⟨by decide, by decide, rfl⟩ trivial ?_
      refine tf_cS hx ftX11_better (nx := 4) (As := [.int (nI h1)]) (rest := []) (st2 := [.int (if ¬ (nI h1) < 0 ∧ ¬ 4 ≤ (nI h1) then 1 else 0)]) (m_isHand (nI h1)) rfl lX11_62 rfl ⟨rfl, by decide, by decide, by decide, rfl, rfl⟩ ?_
      rw [if_pos c0]
      refine tf_go hx ftX11_better 1 [false] 7 [some (.ref o), some (.int (nI h1)), some (.int (nI b1))] [] S rfl ⟨by decide, by decide, rfl⟩ ⟨trivial, (by decide)⟩ ?_
      refine tf_go hx ftX11_better 1 [] 8 [some (.ref o), some (.int (nI h1)), some (.int (nI b1))] [.int (nI b1)] S rfl ⟨by decide, by decide, rfl⟩ trivial ?_
      refine tf_cS hx ftX11_better (nx := 11) (As := [.int (nI b1)]) (rest := []) (st2 := [.int (if ¬ (nI b1) < 0 ∧ ¬ 4 ≤ (nI b1) then 1 else 0)]) (m_isBoard (nI b1)) rfl lX11_40 rfl ⟨rfl, by decide, by decide, by decide, rfl, rfl⟩ ?_
      rw [if_pos c1]
      refine tf_go hx ftX11_better 1 [false] 14 [some (.ref o), some (.int (nI h1)), some (.int (nI b1))] [] S rfl ⟨by decide, by decide, rfl⟩ ⟨trivial, (by decide)⟩ ?_
      refine tf_go hx ftX11_better 3 [] 17 [some (.ref o), some (.int (nI h1)), some (.int (nI b1))] [.int (nI b1), .int (nI h1), .ref o] S rfl ⟨by decide, by decide, rfl⟩ trivial ?_
      refine tf_cV hx ftX11_better (nx := 20) (As := [.int (nI h1), .int (nI b1)]) (rest := []) (st2 := [.int (tf_on 3000 (tf_be A.1 h1 b1))]) (m_betterOf h1 b1 ho hf hg h1_lt b1_lt) rfl lX11_123 (by first | assumption | rfl | decide) rfl ⟨rfl, by decide, by decide, by decide, rfl, rfl⟩ ?_
      refine tf_go hx ftX11_better 1 [] 28 [some (.ref o), some (.int (nI h1)), some (.int (nI b1))] [.int (tf_on 3000 (tf_be A.1 h1 b1))] S rfl ⟨by decide, by decide, rfl⟩ trivial ?_
      exact tf_ret ftX11_better hR rfl ⟨by decide, by decide⟩ rfl rfl rfl
    · rw [if_neg (fun h => c1 h.2)]
      refine ⟨tf_rfS G S o 1, tf_Fn_of (own := RX11) false ⟨by decide, rfl, by decide⟩ (Nat.le_of_ble_eq_true rfl) trivial (fun x hx hR => ?_), tf_ms_ref ho hd hM 1, tf_fm_0⟩
      show tf_K x 0 0 G S 0 [some (.ref o), some (.int h), some (.int b)] []
      refine tf_go hx ftX11_better 1 [] 1 [some (.ref o), some (.int h), some (.int b)] [.int h] S rfl ⟨by decide, by decide, rfl⟩ trivial ?_
      refine tf_cS hx ftX11_better (nx := 4) (As := [.int h]) (rest := []) (st2 := [.int (if ¬ h < 0 ∧ ¬ 4 ≤ h then 1 else 0)]) (m_isHand h) rfl lX11_62 rfl ⟨rfl, by decide, by decide, by decide, rfl, rfl⟩ ?_
      rw [if_pos c0]
      refine tf_go hx ftX11_better 1 [false] 7 [some (.ref o), some (.int h), some (.int b)] [] S rfl ⟨by decide, by decide, rfl⟩ ⟨trivial, (by decide)⟩ ?_
      refine tf_go hx ftX11_better 1 [] 8 [some (.ref o), some (.int h), some (.int b)] [.int b] S rfl ⟨by decide, by decide, rfl⟩ trivial ?_
      refine tf_cS hx ftX11_better (nx := 11) (As := [.int b]) (rest := []) (st2 := [.int (if ¬ b < 0 ∧ ¬ 4 ≤ b then 1 else 0)]) (m_isBoard b) rfl lX11_40 rfl ⟨rfl, by decide, by decide, by decide, rfl, rfl⟩ ?_
      rw [if_neg c1]
      refine tf_go hx ftX11_better 1 [true] 23 [some (.ref o), some (.int h), some (.int b)] [] S rfl ⟨by decide, by decide, rfl⟩ ⟨trivial, (by decide)⟩ ?_
      refine tf_go hx ftX11_better 2 [] 25 [some (.ref o), some (.int h), some (.int b)] [.int (-1), .ref o] S rfl ⟨by decide, by decide, rfl⟩ trivial ?_
      refine tf_cV hx ftX11_better (nx := 28) (As := [.int (-1)]) (rest := []) (st2 := [.int (-1)]) (m_ref1 ho) rfl lX11_26 (by first | assumption | rfl | decide) rfl ⟨rfl, by decide, by decide, by decide, rfl, rfl⟩ ?_
      exact tf_ret ftX11_better hR rfl ⟨by decide, by decide⟩ rfl rfl rfl
  · rw [if_neg (fun h => c0 h.1)]
    refine ⟨tf_rfS G S o 1, tf_Fn_of (own := RX11) false ⟨by decide, rfl, by decide⟩ (Nat.le_of_ble_eq_true rfl) trivial (fun x hx hR => ?_), tf_ms_ref ho hd hM 1, tf_fm_0⟩
    show tf_K x 0 0 G S 0 [some (.ref o), some (.int h), some (.int b)] []
    refine tf_go hx ftX11_better 1 [] 1 [some (.ref o), some (.int h), some (.int b)] [.int h] S rfl ⟨by decide, by decide, rfl⟩ trivial ?_
    refine tf_cS hx ftX11_better (nx := 4) (As := [.int h]) (rest := []) (st2 := [.int (if ¬ h < 0 ∧ ¬ 4 ≤ h then 1 else 0)]) (m_isHand h) rfl lX11_62 rfl ⟨rfl, by decide, by decide, by decide, rfl, rfl⟩ ?_
    rw [if_neg c0]
    refine tf_go hx ftX11_better 1 [true] 23 [some (.ref o), some (.int h), some (.int b)] [] S rfl ⟨by decide, by decide, rfl⟩ ⟨trivial, (by decide)⟩ ?_
    refine tf_go hx ftX11_better 2 [] 25 [some (.ref o), some (.int h), some (.int b)] [.int (-1), .ref o] S rfl ⟨by decide, by decide, rfl⟩ trivial ?_
    refine tf_cV hx ftX11_better (nx := 28) (As := [.int (-1)]) (rest := []) (st2 := [.int (-1)]) (m_ref1 ho) rfl lX11_26 (by first | assumption | rfl | decide) rfl ⟨rfl, by decide, by decide, by decide, rfl, rfl⟩ ?_
    exact tf_ret ftX11_better hR rfl ⟨by decide, by decide⟩ rfl rfl rfl

set_option maxHeartbeats 2000000 in
theorem p_far {G : tf_G} {S : tf_Sg} {o : Nat} {A : tf_A} (h b : Int32) (ho : tf_mo G o) (hd : tf_md G o) (hA : tf_okA A) (hM : tf_ms G S o A)  : tf_pm mX11_far 6 G S o [.ref o, .int h, .int b] (s_far A h b) := by
  obtain ⟨h1, ⟨r0, t0, n0⟩, ⟨r1, t1, n1⟩, ⟨r2, t2, n2⟩, ⟨r4, t4, n4⟩⟩ := id ho
  obtain ⟨hg, hb, hA3, hA4, hA5, hA6⟩ := id hA
  have hs := hM.1
  have hf : tf_sf G S o A.1 := ⟨hM.1, hb⟩
  obtain ⟨⟨g1, g2, g3, g4⟩, g5, g6, g7, g8, g9, g10, g11⟩ := id hg
  unfold s_far
  by_cases c0 : ¬ h < 0 ∧ ¬ 4 ≤ h
  · by_cases c1 : ¬ b < 0 ∧ ¬ 4 ≤ b
    · rw [if_pos ⟨c0, c1⟩]
      obtain ⟨h1, h1_lt, h1_eq, h1_cl⟩ := tf_ok_nI (N := 4) (show tf_ok h _ from c0) rfl (by decide)
      try rw [h1_cl]
      obtain ⟨b1, b1_lt, b1_eq, b1_cl⟩ := tf_ok_nI (N := 4) (show tf_ok b _ from c1) rfl (by decide)
      try rw [b1_cl]
      subst h1_eq
      subst b1_eq
      refine ⟨S, tf_Fn_of (own := RX11) false ⟨by decide, rfl, by decide⟩ (Nat.le_of_ble_eq_true rfl) trivial (fun x hx hR => ?_), hM, tf_fm_id⟩
      show tf_K x 0 0 G S 0 [some (.ref o), some (.int (nI h1)), some (.int (nI b1))] []
      refine tf_go hx ftX11_far 1 [] 1 [some (.ref o), some (.int (nI h1)), some (.int (nI b1))] [.int (nI h1)] S rfl ⟨by decide, by decide, rfl⟩ trivial ?_
      refine tf_cS hx ftX11_far (nx := 4) (As := [.int (nI h1)]) (rest := []) (st2 := [.int (if ¬ (nI h1) < 0 ∧ ¬ 4 ≤ (nI h1) then 1 else 0)]) (m_isHand (nI h1)) rfl lX11_62 rfl ⟨rfl, by decide, by decide, by decide, rfl, rfl⟩ ?_
      rw [if_pos c0]
      refine tf_go hx ftX11_far 1 [false] 7 [some (.ref o), some (.int (nI h1)), some (.int (nI b1))] [] S rfl ⟨by decide, by decide, rfl⟩ ⟨trivial, (by decide)⟩ ?_
      refine tf_go hx ftX11_far 1 [] 8 [some (.ref o), some (.int (nI h1)), some (.int (nI b1))] [.int (nI b1)] S rfl ⟨by decide, by decide, rfl⟩ trivial ?_
      refine tf_cS hx ftX11_far (nx := 11) (As := [.int (nI b1)]) (rest := []) (st2 := [.int (if ¬ (nI b1) < 0 ∧ ¬ 4 ≤ (nI b1) then 1 else 0)]) (m_isBoard (nI b1)) rfl lX11_40 rfl ⟨rfl, by decide, by decide, by decide, rfl, rfl⟩ ?_
      rw [if_pos c1]
      refine tf_go hx ftX11_far 1 [false] 14 [some (.ref o), some (.int (nI h1)), some (.int (nI b1))] [] S rfl ⟨by decide, by decide, rfl⟩ ⟨trivial, (by decide)⟩ ?_
      refine tf_go hx ftX11_far 3 [] 17 [some (.ref o), some (.int (nI h1)), some (.int (nI b1))] [.int (nI b1), .int (nI h1), .ref o] S rfl ⟨by decide, by decide, rfl⟩ trivial ?_
      refine tf_cV hx ftX11_far (nx := 20) (As := [.int (nI h1), .int (nI b1)]) (rest := []) (st2 := [.int (nI (tf_fa A.1 h1 b1))]) (m_farOf h1 b1 ho hf hg h1_lt b1_lt) rfl lX11_126 (by first | assumption | rfl | decide) rfl ⟨rfl, by decide, by decide, by decide, rfl, rfl⟩ ?_
      refine tf_go hx ftX11_far 1 [] 28 [some (.ref o), some (.int (nI h1)), some (.int (nI b1))] [.int (nI (tf_fa A.1 h1 b1))] S rfl ⟨by decide, by decide, rfl⟩ trivial ?_
      exact tf_ret ftX11_far hR rfl ⟨by decide, by decide⟩ rfl rfl rfl
    · rw [if_neg (fun h => c1 h.2)]
      refine ⟨tf_rfS G S o 1, tf_Fn_of (own := RX11) false ⟨by decide, rfl, by decide⟩ (Nat.le_of_ble_eq_true rfl) trivial (fun x hx hR => ?_), tf_ms_ref ho hd hM 1, tf_fm_0⟩
      show tf_K x 0 0 G S 0 [some (.ref o), some (.int h), some (.int b)] []
      refine tf_go hx ftX11_far 1 [] 1 [some (.ref o), some (.int h), some (.int b)] [.int h] S rfl ⟨by decide, by decide, rfl⟩ trivial ?_
      refine tf_cS hx ftX11_far (nx := 4) (As := [.int h]) (rest := []) (st2 := [.int (if ¬ h < 0 ∧ ¬ 4 ≤ h then 1 else 0)]) (m_isHand h) rfl lX11_62 rfl ⟨rfl, by decide, by decide, by decide, rfl, rfl⟩ ?_
      rw [if_pos c0]
      refine tf_go hx ftX11_far 1 [false] 7 [some (.ref o), some (.int h), some (.int b)] [] S rfl ⟨by decide, by decide, rfl⟩ ⟨trivial, (by decide)⟩ ?_
      refine tf_go hx ftX11_far 1 [] 8 [some (.ref o), some (.int h), some (.int b)] [.int b] S rfl ⟨by decide, by decide, rfl⟩ trivial ?_
      refine tf_cS hx ftX11_far (nx := 11) (As := [.int b]) (rest := []) (st2 := [.int (if ¬ b < 0 ∧ ¬ 4 ≤ b then 1 else 0)]) (m_isBoard b) rfl lX11_40 rfl ⟨rfl, by decide, by decide, by decide, rfl, rfl⟩ ?_
      rw [if_neg c1]
      refine tf_go hx ftX11_far 1 [true] 23 [some (.ref o), some (.int h), some (.int b)] [] S rfl ⟨by decide, by decide, rfl⟩ ⟨trivial, (by decide)⟩ ?_
      refine tf_go hx ftX11_far 2 [] 25 [some (.ref o), some (.int h), some (.int b)] [.int (-1), .ref o] S rfl ⟨by decide, by decide, rfl⟩ trivial ?_
      refine tf_cV hx ftX11_far (nx := 28) (As := [.int (-1)]) (rest := []) (st2 := [.int (-1)]) (m_ref1 ho) rfl lX11_26 (by first | assumption | rfl | decide) rfl ⟨rfl, by decide, by decide, by decide, rfl, rfl⟩ ?_
      exact tf_ret ftX11_far hR rfl ⟨by decide, by decide⟩ rfl rfl rfl
  · rw [if_neg (fun h => c0 h.1)]
    refine ⟨tf_rfS G S o 1, tf_Fn_of (own := RX11) false ⟨by decide, rfl, by decide⟩ (Nat.le_of_ble_eq_true rfl) trivial (fun x hx hR => ?_), tf_ms_ref ho hd hM 1, tf_fm_0⟩
    show tf_K x 0 0 G S 0 [some (.ref o), some (.int h), some (.int b)] []
    refine tf_go hx ftX11_far 1 [] 1 [some (.ref o), some (.int h), some (.int b)] [.int h] S rfl ⟨by decide, by decide, rfl⟩ trivial ?_
    refine tf_cS hx ftX11_far (nx := 4) (As := [.int h]) (rest := []) (st2 := [.int (if ¬ h < 0 ∧ ¬ 4 ≤ h then 1 else 0)]) (m_isHand h) rfl lX11_62 rfl ⟨rfl, by decide, by decide, by decide, rfl, rfl⟩ ?_
    rw [if_neg c0]
    refine tf_go hx ftX11_far 1 [true] 23 [some (.ref o), some (.int h), some (.int b)] [] S rfl ⟨by decide, by decide, rfl⟩ ⟨trivial, (by decide)⟩ ?_
    refine tf_go hx ftX11_far 2 [] 25 [some (.ref o), some (.int h), some (.int b)] [.int (-1), .ref o] S rfl ⟨by decide, by decide, rfl⟩ trivial ?_
    refine tf_cV hx ftX11_far (nx := 28) (As := [.int (-1)]) (rest := []) (st2 := [.int (-1)]) (m_ref1 ho) rfl lX11_26 (by first | assumption | rfl | decide) rfl ⟨rfl, by decide, by decide, by decide, rfl, rfl⟩ ?_
    exact tf_ret ftX11_far hR rfl ⟨by decide, by decide⟩ rfl rfl rfl

set_option maxHeartbeats 2000000 in
theorem p_where {G : tf_G} {S : tf_Sg} {o : Nat} {A : tf_A} (b k : Int32) (ho : tf_mo G o) (hd : tf_md G o) (hA : tf_okA A) (hM : tf_ms G S o A)  : tf_pm mX11_where 4 G S o [.ref o, .int b, .int k] (s_where A b k) := by
  obtain ⟨h1, ⟨r0, t0, n0⟩, ⟨r1, t1, n1⟩, ⟨r2, t2, n2⟩, ⟨r4, t4, n4⟩⟩ := id ho
  obtain ⟨hg, hb, hA3, hA4, hA5, hA6⟩ := id hA
  have hs := hM.1
  have hf : tf_sf G S o A.1 := ⟨hM.1, hb⟩
  obtain ⟨⟨g1, g2, g3, g4⟩, g5, g6, g7, g8, g9, g10, g11⟩ := id hg
  unfold s_where
  by_cases c0 : ¬ b < 0 ∧ ¬ 4 ≤ b
  · rw [if_pos c0]
    obtain ⟨b1, b1_lt, b1_eq, b1_cl⟩ := tf_ok_nI (N := 4) (show tf_ok b _ from c0) rfl (by decide)
    try rw [b1_cl]
    subst b1_eq
    by_cases e1 : ¬ k < 0 ∧ ¬ 8 ≤ k
    · rw [if_pos e1]
      obtain ⟨k1, k1_lt, k1_eq, k1_cl⟩ := tf_ok_nI (N := 8) (show tf_ok k _ from e1) rfl (by decide)
      try rw [k1_cl]
      subst k1_eq
      refine ⟨S, tf_Fn_of (own := RX11) false ⟨by decide, rfl, by decide⟩ (Nat.le_of_ble_eq_true rfl) trivial (fun x hx hR => ?_), hM, tf_fm_id⟩
      show tf_K x 0 0 G S 0 [some (.ref o), some (.int (nI b1)), some (.int (nI k1))] []
      refine tf_go hx ftX11_where 1 [] 1 [some (.ref o), some (.int (nI b1)), some (.int (nI k1))] [.int (nI b1)] S rfl ⟨by decide, by decide, rfl⟩ trivial ?_
      refine tf_cS hx ftX11_where (nx := 4) (As := [.int (nI b1)]) (rest := []) (st2 := [.int (if ¬ (nI b1) < 0 ∧ ¬ 4 ≤ (nI b1) then 1 else 0)]) (m_isBoard (nI b1)) rfl lX11_40 rfl ⟨rfl, by decide, by decide, by decide, rfl, rfl⟩ ?_
      rw [if_pos c0]
      refine tf_go hx ftX11_where 1 [true] 13 [some (.ref o), some (.int (nI b1)), some (.int (nI k1))] [] S rfl ⟨by decide, by decide, rfl⟩ ⟨trivial, (by decide)⟩ ?_
      refine tf_go hx ftX11_where 2 [] 16 [some (.ref o), some (.int (nI b1)), some (.int (nI k1))] [.int 8, .int (nI k1)] S rfl ⟨by decide, by decide, rfl⟩ trivial ?_
      refine tf_cS hx ftX11_where (nx := 19) (As := [.int (nI k1), .int 8]) (rest := []) (st2 := [.int (if ¬ (nI k1) < 0 ∧ ¬ 8 ≤ (nI k1) then 1 else 0)]) (m_isIn (nI k1) 8) rfl lX11_22 rfl ⟨rfl, by decide, by decide, by decide, rfl, rfl⟩ ?_
      rw [if_pos e1]
      refine tf_go hx ftX11_where 4 [false] 25 [some (.ref o), some (.int (nI b1)), some (.int (nI k1))] [.int (nI k1), .int (nI b1), .ref o] S rfl ⟨by decide, by decide, rfl⟩ ⟨trivial, (by decide)⟩ ?_
      refine tf_cV hx ftX11_where (nx := 28) (As := [.int (nI b1), .int (nI k1)]) (rest := []) (st2 := [.int (tf_on 41 (tf_wo A.1 b1 k1))]) (m_whereOf b1 k1 ho hf hg b1_lt k1_lt) rfl lX11_116 (by first | assumption | rfl | decide) rfl ⟨rfl, by decide, by decide, by decide, rfl, rfl⟩ ?_
      refine tf_go hx ftX11_where 1 [] 37 [some (.ref o), some (.int (nI b1)), some (.int (nI k1))] [.int (tf_on 41 (tf_wo A.1 b1 k1))] S rfl ⟨by decide, by decide, rfl⟩ trivial ?_
      exact tf_ret ftX11_where hR rfl ⟨by decide, by decide⟩ rfl rfl rfl
    · rw [if_neg e1]
      refine ⟨tf_rfS G S o 2, tf_Fn_of (own := RX11) false ⟨by decide, rfl, by decide⟩ (Nat.le_of_ble_eq_true rfl) trivial (fun x hx hR => ?_), tf_ms_ref ho hd hM 2, tf_fm_0⟩
      show tf_K x 0 0 G S 0 [some (.ref o), some (.int (nI b1)), some (.int k)] []
      refine tf_go hx ftX11_where 1 [] 1 [some (.ref o), some (.int (nI b1)), some (.int k)] [.int (nI b1)] S rfl ⟨by decide, by decide, rfl⟩ trivial ?_
      refine tf_cS hx ftX11_where (nx := 4) (As := [.int (nI b1)]) (rest := []) (st2 := [.int (if ¬ (nI b1) < 0 ∧ ¬ 4 ≤ (nI b1) then 1 else 0)]) (m_isBoard (nI b1)) rfl lX11_40 rfl ⟨rfl, by decide, by decide, by decide, rfl, rfl⟩ ?_
      rw [if_pos c0]
      refine tf_go hx ftX11_where 1 [true] 13 [some (.ref o), some (.int (nI b1)), some (.int k)] [] S rfl ⟨by decide, by decide, rfl⟩ ⟨trivial, (by decide)⟩ ?_
      refine tf_go hx ftX11_where 2 [] 16 [some (.ref o), some (.int (nI b1)), some (.int k)] [.int 8, .int k] S rfl ⟨by decide, by decide, rfl⟩ trivial ?_
      refine tf_cS hx ftX11_where (nx := 19) (As := [.int k, .int 8]) (rest := []) (st2 := [.int (if ¬ k < 0 ∧ ¬ 8 ≤ k then 1 else 0)]) (m_isIn k 8) rfl lX11_22 rfl ⟨rfl, by decide, by decide, by decide, rfl, rfl⟩ ?_
      rw [if_neg e1]
      refine tf_go hx ftX11_where 3 [true] 34 [some (.ref o), some (.int (nI b1)), some (.int k)] [.int (-2), .ref o] S rfl ⟨by decide, by decide, rfl⟩ ⟨trivial, (by decide)⟩ ?_
      refine tf_cV hx ftX11_where (nx := 37) (As := [.int (-2)]) (rest := []) (st2 := [.int (-2)]) (m_ref2 ho) rfl lX11_26 (by first | assumption | rfl | decide) rfl ⟨rfl, by decide, by decide, by decide, rfl, rfl⟩ ?_
      exact tf_ret ftX11_where hR rfl ⟨by decide, by decide⟩ rfl rfl rfl
  · rw [if_neg (fun h => c0 h)]
    refine ⟨tf_rfS G S o 1, tf_Fn_of (own := RX11) false ⟨by decide, rfl, by decide⟩ (Nat.le_of_ble_eq_true rfl) trivial (fun x hx hR => ?_), tf_ms_ref ho hd hM 1, tf_fm_0⟩
    show tf_K x 0 0 G S 0 [some (.ref o), some (.int b), some (.int k)] []
    refine tf_go hx ftX11_where 1 [] 1 [some (.ref o), some (.int b), some (.int k)] [.int b] S rfl ⟨by decide, by decide, rfl⟩ trivial ?_
    refine tf_cS hx ftX11_where (nx := 4) (As := [.int b]) (rest := []) (st2 := [.int (if ¬ b < 0 ∧ ¬ 4 ≤ b then 1 else 0)]) (m_isBoard b) rfl lX11_40 rfl ⟨rfl, by decide, by decide, by decide, rfl, rfl⟩ ?_
    rw [if_neg c0]
    refine tf_go hx ftX11_where 1 [false] 7 [some (.ref o), some (.int b), some (.int k)] [] S rfl ⟨by decide, by decide, rfl⟩ ⟨trivial, (by decide)⟩ ?_
    refine tf_go hx ftX11_where 2 [] 9 [some (.ref o), some (.int b), some (.int k)] [.int (-1), .ref o] S rfl ⟨by decide, by decide, rfl⟩ trivial ?_
    refine tf_cV hx ftX11_where (nx := 12) (As := [.int (-1)]) (rest := []) (st2 := [.int (-1)]) (m_ref1 ho) rfl lX11_26 (by first | assumption | rfl | decide) rfl ⟨rfl, by decide, by decide, by decide, rfl, rfl⟩ ?_
    exact tf_ret ftX11_where hR rfl ⟨by decide, by decide⟩ rfl rfl rfl

set_option maxHeartbeats 2000000 in
theorem p_exchange {G : tf_G} {S : tf_Sg} {o : Nat} {A : tf_A} (b u w : Int32) (ho : tf_mo G o) (hd : tf_md G o) (hA : tf_okA A) (hM : tf_ms G S o A)  : tf_pm mX11_exchange 3 G S o [.ref o, .int b, .int u, .int w] (s_exchange A b u w) := by
  obtain ⟨h1, ⟨r0, t0, n0⟩, ⟨r1, t1, n1⟩, ⟨r2, t2, n2⟩, ⟨r4, t4, n4⟩⟩ := id ho
  obtain ⟨hg, hb, hA3, hA4, hA5, hA6⟩ := id hA
  have hs := hM.1
  have hf : tf_sf G S o A.1 := ⟨hM.1, hb⟩
  obtain ⟨⟨g1, g2, g3, g4⟩, g5, g6, g7, g8, g9, g10, g11⟩ := id hg
  unfold s_exchange
  by_cases c0 : ¬ b < 0 ∧ ¬ 4 ≤ b
  · by_cases c1 : ¬ u < 0 ∧ ¬ 30 ≤ u
    · by_cases c2 : ¬ w < 0 ∧ ¬ 30 ≤ w
      · by_cases c3 : u = w
        · rw [if_neg (fun h => h.2.2.2 c3)]
          refine ⟨tf_rfS G S o 1, tf_Fn_of (own := RX11) false ⟨by decide, rfl, by decide⟩ (Nat.le_of_ble_eq_true rfl) trivial (fun x hx hR => ?_), tf_ms_ref ho hd hM 1, tf_fm_0⟩
          show tf_K x 0 0 G S 0 [some (.ref o), some (.int b), some (.int u), some (.int w)] []
          refine tf_go hx ftX11_exchange 1 [] 1 [some (.ref o), some (.int b), some (.int u), some (.int w)] [.int b] S rfl ⟨by decide, by decide, rfl⟩ trivial ?_
          refine tf_cS hx ftX11_exchange (nx := 4) (As := [.int b]) (rest := []) (st2 := [.int (if ¬ b < 0 ∧ ¬ 4 ≤ b then 1 else 0)]) (m_isBoard b) rfl lX11_40 rfl ⟨rfl, by decide, by decide, by decide, rfl, rfl⟩ ?_
          rw [if_pos c0]
          refine tf_go hx ftX11_exchange 1 [false] 7 [some (.ref o), some (.int b), some (.int u), some (.int w)] [] S rfl ⟨by decide, by decide, rfl⟩ ⟨trivial, (by decide)⟩ ?_
          refine tf_go hx ftX11_exchange 1 [] 8 [some (.ref o), some (.int b), some (.int u), some (.int w)] [.int u] S rfl ⟨by decide, by decide, rfl⟩ trivial ?_
          refine tf_cS hx ftX11_exchange (nx := 11) (As := [.int u]) (rest := []) (st2 := [.int (if ¬ u < 0 ∧ ¬ 30 ≤ u then 1 else 0)]) (m_isKey u) rfl lX11_55 rfl ⟨rfl, by decide, by decide, by decide, rfl, rfl⟩ ?_
          rw [if_pos c1]
          refine tf_go hx ftX11_exchange 1 [false] 14 [some (.ref o), some (.int b), some (.int u), some (.int w)] [] S rfl ⟨by decide, by decide, rfl⟩ ⟨trivial, (by decide)⟩ ?_
          refine tf_go hx ftX11_exchange 1 [] 15 [some (.ref o), some (.int b), some (.int u), some (.int w)] [.int w] S rfl ⟨by decide, by decide, rfl⟩ trivial ?_
          refine tf_cS hx ftX11_exchange (nx := 18) (As := [.int w]) (rest := []) (st2 := [.int (if ¬ w < 0 ∧ ¬ 30 ≤ w then 1 else 0)]) (m_isKey w) rfl lX11_55 rfl ⟨rfl, by decide, by decide, by decide, rfl, rfl⟩ ?_
          rw [if_pos c2]
          refine tf_go hx ftX11_exchange 1 [false] 21 [some (.ref o), some (.int b), some (.int u), some (.int w)] [] S rfl ⟨by decide, by decide, rfl⟩ ⟨trivial, (by decide)⟩ ?_
          refine tf_go hx ftX11_exchange 2 [] 23 [some (.ref o), some (.int b), some (.int u), some (.int w)] [.int w, .int u] S rfl ⟨by decide, by decide, rfl⟩ trivial ?_
          refine tf_go hx ftX11_exchange 1 [false] 26 [some (.ref o), some (.int b), some (.int u), some (.int w)] [] S rfl ⟨by decide, by decide, rfl⟩ ⟨trivial, (fun h => h c3)⟩ ?_
          refine tf_go hx ftX11_exchange 2 [] 28 [some (.ref o), some (.int b), some (.int u), some (.int w)] [.int (-1), .ref o] S rfl ⟨by decide, by decide, rfl⟩ trivial ?_
          refine tf_cV hx ftX11_exchange (nx := 31) (As := [.int (-1)]) (rest := []) (st2 := [.int (-1)]) (m_ref1 ho) rfl lX11_26 (by first | assumption | rfl | decide) rfl ⟨rfl, by decide, by decide, by decide, rfl, rfl⟩ ?_
          exact tf_ret ftX11_exchange hR rfl ⟨by decide, by decide⟩ rfl rfl rfl
        · rw [if_pos ⟨c0, c1, c2, c3⟩]
          obtain ⟨b1, b1_lt, b1_eq, b1_cl⟩ := tf_ok_nI (N := 4) (show tf_ok b _ from c0) rfl (by decide)
          try rw [b1_cl]
          obtain ⟨u1, u1_lt, u1_eq, u1_cl⟩ := tf_ok_nI (N := 30) (show tf_ok u _ from c1) rfl (by decide)
          try rw [u1_cl]
          obtain ⟨w1, w1_lt, w1_eq, w1_cl⟩ := tf_ok_nI (N := 30) (show tf_ok w _ from c2) rfl (by decide)
          try rw [w1_cl]
          subst b1_eq
          subst u1_eq
          subst w1_eq
          refine ⟨tf_rw S (tf_rf G o 1) (tf_ex A.1 b1 u1 w1), tf_Fn_of (own := RX11) false ⟨by decide, rfl, by decide⟩ (Nat.le_of_ble_eq_true rfl) trivial (fun x hx hR => ?_), tf_ms_rw ho hd hM _, tf_fm_1⟩
          show tf_K x 0 0 G S 0 [some (.ref o), some (.int (nI b1)), some (.int (nI u1)), some (.int (nI w1))] []
          refine tf_go hx ftX11_exchange 1 [] 1 [some (.ref o), some (.int (nI b1)), some (.int (nI u1)), some (.int (nI w1))] [.int (nI b1)] S rfl ⟨by decide, by decide, rfl⟩ trivial ?_
          refine tf_cS hx ftX11_exchange (nx := 4) (As := [.int (nI b1)]) (rest := []) (st2 := [.int (if ¬ (nI b1) < 0 ∧ ¬ 4 ≤ (nI b1) then 1 else 0)]) (m_isBoard (nI b1)) rfl lX11_40 rfl ⟨rfl, by decide, by decide, by decide, rfl, rfl⟩ ?_
          rw [if_pos c0]
          refine tf_go hx ftX11_exchange 1 [false] 7 [some (.ref o), some (.int (nI b1)), some (.int (nI u1)), some (.int (nI w1))] [] S rfl ⟨by decide, by decide, rfl⟩ ⟨trivial, (by decide)⟩ ?_
          refine tf_go hx ftX11_exchange 1 [] 8 [some (.ref o), some (.int (nI b1)), some (.int (nI u1)), some (.int (nI w1))] [.int (nI u1)] S rfl ⟨by decide, by decide, rfl⟩ trivial ?_
          refine tf_cS hx ftX11_exchange (nx := 11) (As := [.int (nI u1)]) (rest := []) (st2 := [.int (if ¬ (nI u1) < 0 ∧ ¬ 30 ≤ (nI u1) then 1 else 0)]) (m_isKey (nI u1)) rfl lX11_55 rfl ⟨rfl, by decide, by decide, by decide, rfl, rfl⟩ ?_
          rw [if_pos c1]
          refine tf_go hx ftX11_exchange 1 [false] 14 [some (.ref o), some (.int (nI b1)), some (.int (nI u1)), some (.int (nI w1))] [] S rfl ⟨by decide, by decide, rfl⟩ ⟨trivial, (by decide)⟩ ?_
          refine tf_go hx ftX11_exchange 1 [] 15 [some (.ref o), some (.int (nI b1)), some (.int (nI u1)), some (.int (nI w1))] [.int (nI w1)] S rfl ⟨by decide, by decide, rfl⟩ trivial ?_
          refine tf_cS hx ftX11_exchange (nx := 18) (As := [.int (nI w1)]) (rest := []) (st2 := [.int (if ¬ (nI w1) < 0 ∧ ¬ 30 ≤ (nI w1) then 1 else 0)]) (m_isKey (nI w1)) rfl lX11_55 rfl ⟨rfl, by decide, by decide, by decide, rfl, rfl⟩ ?_
          rw [if_pos c2]
          refine tf_go hx ftX11_exchange 1 [false] 21 [some (.ref o), some (.int (nI b1)), some (.int (nI u1)), some (.int (nI w1))] [] S rfl ⟨by decide, by decide, rfl⟩ ⟨trivial, (by decide)⟩ ?_
          refine tf_go hx ftX11_exchange 2 [] 23 [some (.ref o), some (.int (nI b1)), some (.int (nI u1)), some (.int (nI w1))] [.int (nI w1), .int (nI u1)] S rfl ⟨by decide, by decide, rfl⟩ trivial ?_
          refine tf_go hx ftX11_exchange 1 [true] 32 [some (.ref o), some (.int (nI b1)), some (.int (nI u1)), some (.int (nI w1))] [] S rfl ⟨by decide, by decide, rfl⟩ ⟨trivial, c3⟩ ?_
          refine tf_go hx ftX11_exchange 4 [] 36 [some (.ref o), some (.int (nI b1)), some (.int (nI u1)), some (.int (nI w1))] [.int (nI w1), .int (nI u1), .int (nI b1), .ref o] S rfl ⟨by decide, by decide, rfl⟩ trivial ?_
          refine tf_cV hx ftX11_exchange (nx := 39) (As := [.int (nI b1), .int (nI u1), .int (nI w1)]) (rest := []) (st2 := []) (m_changes b1 u1 w1 ho hf b1_lt u1_lt w1_lt) rfl lX11_119 (by first | assumption | rfl | decide) rfl ⟨rfl, by decide, by decide, by decide, rfl, rfl⟩ ?_
          refine tf_go hx ftX11_exchange 1 [] 40 [some (.ref o), some (.int (nI b1)), some (.int (nI u1)), some (.int (nI w1))] [.int 1] (tf_rw S (tf_rf G o 1) (tf_ex A.1 b1 u1 w1)) rfl ⟨by decide, by decide, rfl⟩ trivial ?_
          exact tf_ret ftX11_exchange hR rfl ⟨by decide, by decide⟩ rfl rfl rfl
      · rw [if_neg (fun h => c2 h.2.2.1)]
        refine ⟨tf_rfS G S o 1, tf_Fn_of (own := RX11) false ⟨by decide, rfl, by decide⟩ (Nat.le_of_ble_eq_true rfl) trivial (fun x hx hR => ?_), tf_ms_ref ho hd hM 1, tf_fm_0⟩
        show tf_K x 0 0 G S 0 [some (.ref o), some (.int b), some (.int u), some (.int w)] []
        refine tf_go hx ftX11_exchange 1 [] 1 [some (.ref o), some (.int b), some (.int u), some (.int w)] [.int b] S rfl ⟨by decide, by decide, rfl⟩ trivial ?_
        refine tf_cS hx ftX11_exchange (nx := 4) (As := [.int b]) (rest := []) (st2 := [.int (if ¬ b < 0 ∧ ¬ 4 ≤ b then 1 else 0)]) (m_isBoard b) rfl lX11_40 rfl ⟨rfl, by decide, by decide, by decide, rfl, rfl⟩ ?_
        rw [if_pos c0]
        refine tf_go hx ftX11_exchange 1 [false] 7 [some (.ref o), some (.int b), some (.int u), some (.int w)] [] S rfl ⟨by decide, by decide, rfl⟩ ⟨trivial, (by decide)⟩ ?_
        refine tf_go hx ftX11_exchange 1 [] 8 [some (.ref o), some (.int b), some (.int u), some (.int w)] [.int u] S rfl ⟨by decide, by decide, rfl⟩ trivial ?_
        refine tf_cS hx ftX11_exchange (nx := 11) (As := [.int u]) (rest := []) (st2 := [.int (if ¬ u < 0 ∧ ¬ 30 ≤ u then 1 else 0)]) (m_isKey u) rfl lX11_55 rfl ⟨rfl, by decide, by decide, by decide, rfl, rfl⟩ ?_
        rw [if_pos c1]
        refine tf_go hx ftX11_exchange 1 [false] 14 [some (.ref o), some (.int b), some (.int u), some (.int w)] [] S rfl ⟨by decide, by decide, rfl⟩ ⟨trivial, (by decide)⟩ ?_
        refine tf_go hx ftX11_exchange 1 [] 15 [some (.ref o), some (.int b), some (.int u), some (.int w)] [.int w] S rfl ⟨by decide, by decide, rfl⟩ trivial ?_
        refine tf_cS hx ftX11_exchange (nx := 18) (As := [.int w]) (rest := []) (st2 := [.int (if ¬ w < 0 ∧ ¬ 30 ≤ w then 1 else 0)]) (m_isKey w) rfl lX11_55 rfl ⟨rfl, by decide, by decide, by decide, rfl, rfl⟩ ?_
        rw [if_neg c2]
        refine tf_go hx ftX11_exchange 1 [true] 26 [some (.ref o), some (.int b), some (.int u), some (.int w)] [] S rfl ⟨by decide, by decide, rfl⟩ ⟨trivial, (by decide)⟩ ?_
        refine tf_go hx ftX11_exchange 2 [] 28 [some (.ref o), some (.int b), some (.int u), some (.int w)] [.int (-1), .ref o] S rfl ⟨by decide, by decide, rfl⟩ trivial ?_
        refine tf_cV hx ftX11_exchange (nx := 31) (As := [.int (-1)]) (rest := []) (st2 := [.int (-1)]) (m_ref1 ho) rfl lX11_26 (by first | assumption | rfl | decide) rfl ⟨rfl, by decide, by decide, by decide, rfl, rfl⟩ ?_
        exact tf_ret ftX11_exchange hR rfl ⟨by decide, by decide⟩ rfl rfl rfl
    · rw [if_neg (fun h => c1 h.2.1)]
      refine ⟨tf_rfS G S o 1, tf_Fn_of (own := RX11) false ⟨by decide, rfl, by decide⟩ (Nat.le_of_ble_eq_true rfl) trivial (fun x hx hR => ?_), tf_ms_ref ho hd hM 1, tf_fm_0⟩
      show tf_K x 0 0 G S 0 [some (.ref o), some (.int b), some (.int u), some (.int w)] []
      refine tf_go hx ftX11_exchange 1 [] 1 [some (.ref o), some (.int b), some (.int u), some (.int w)] [.int b] S rfl ⟨by decide, by decide, rfl⟩ trivial ?_
      refine tf_cS hx ftX11_exchange (nx := 4) (As := [.int b]) (rest := []) (st2 := [.int (if ¬ b < 0 ∧ ¬ 4 ≤ b then 1 else 0)]) (m_isBoard b) rfl lX11_40 rfl ⟨rfl, by decide, by decide, by decide, rfl, rfl⟩ ?_
      rw [if_pos c0]
      refine tf_go hx ftX11_exchange 1 [false] 7 [some (.ref o), some (.int b), some (.int u), some (.int w)] [] S rfl ⟨by decide, by decide, rfl⟩ ⟨trivial, (by decide)⟩ ?_
      refine tf_go hx ftX11_exchange 1 [] 8 [some (.ref o), some (.int b), some (.int u), some (.int w)] [.int u] S rfl ⟨by decide, by decide, rfl⟩ trivial ?_
      refine tf_cS hx ftX11_exchange (nx := 11) (As := [.int u]) (rest := []) (st2 := [.int (if ¬ u < 0 ∧ ¬ 30 ≤ u then 1 else 0)]) (m_isKey u) rfl lX11_55 rfl ⟨rfl, by decide, by decide, by decide, rfl, rfl⟩ ?_
      rw [if_neg c1]
      refine tf_go hx ftX11_exchange 1 [true] 26 [some (.ref o), some (.int b), some (.int u), some (.int w)] [] S rfl ⟨by decide, by decide, rfl⟩ ⟨trivial, (by decide)⟩ ?_
      refine tf_go hx ftX11_exchange 2 [] 28 [some (.ref o), some (.int b), some (.int u), some (.int w)] [.int (-1), .ref o] S rfl ⟨by decide, by decide, rfl⟩ trivial ?_
      refine tf_cV hx ftX11_exchange (nx := 31) (As := [.int (-1)]) (rest := []) (st2 := [.int (-1)]) (m_ref1 ho) rfl lX11_26 (by first | assumption | rfl | decide) rfl ⟨rfl, by decide, by decide, by decide, rfl, rfl⟩ ?_
      exact tf_ret ftX11_exchange hR rfl ⟨by decide, by decide⟩ rfl rfl rfl
  · rw [if_neg (fun h => c0 h.1)]
    refine ⟨tf_rfS G S o 1, tf_Fn_of (own := RX11) false ⟨by decide, rfl, by decide⟩ (Nat.le_of_ble_eq_true rfl) trivial (fun x hx hR => ?_), tf_ms_ref ho hd hM 1, tf_fm_0⟩
    show tf_K x 0 0 G S 0 [some (.ref o), some (.int b), some (.int u), some (.int w)] []
    refine tf_go hx ftX11_exchange 1 [] 1 [some (.ref o), some (.int b), some (.int u), some (.int w)] [.int b] S rfl ⟨by decide, by decide, rfl⟩ trivial ?_
    refine tf_cS hx ftX11_exchange (nx := 4) (As := [.int b]) (rest := []) (st2 := [.int (if ¬ b < 0 ∧ ¬ 4 ≤ b then 1 else 0)]) (m_isBoard b) rfl lX11_40 rfl ⟨rfl, by decide, by decide, by decide, rfl, rfl⟩ ?_
    rw [if_neg c0]
    refine tf_go hx ftX11_exchange 1 [true] 26 [some (.ref o), some (.int b), some (.int u), some (.int w)] [] S rfl ⟨by decide, by decide, rfl⟩ ⟨trivial, (by decide)⟩ ?_
    refine tf_go hx ftX11_exchange 2 [] 28 [some (.ref o), some (.int b), some (.int u), some (.int w)] [.int (-1), .ref o] S rfl ⟨by decide, by decide, rfl⟩ trivial ?_
    refine tf_cV hx ftX11_exchange (nx := 31) (As := [.int (-1)]) (rest := []) (st2 := [.int (-1)]) (m_ref1 ho) rfl lX11_26 (by first | assumption | rfl | decide) rfl ⟨rfl, by decide, by decide, by decide, rfl, rfl⟩ ?_
    exact tf_ret ftX11_exchange hR rfl ⟨by decide, by decide⟩ rfl rfl rfl

set_option maxHeartbeats 2000000 in
theorem p_law {G : tf_G} {S : tf_Sg} {o : Nat} {A : tf_A} (h l v : Int32) (ho : tf_mo G o) (hd : tf_md G o) (hA : tf_okA A) (hM : tf_ms G S o A)  : tf_pm mX11_law 3 G S o [.ref o, .int h, .int l, .int v] (s_law A h l v) := by
  obtain ⟨h1, ⟨r0, t0, n0⟩, ⟨r1, t1, n1⟩, ⟨r2, t2, n2⟩, ⟨r4, t4, n4⟩⟩ := id ho
  obtain ⟨hg, hb, hA3, hA4, hA5, hA6⟩ := id hA
  have hs := hM.1
  have hf : tf_sf G S o A.1 := ⟨hM.1, hb⟩
  obtain ⟨⟨g1, g2, g3, g4⟩, g5, g6, g7, g8, g9, g10, g11⟩ := id hg
  unfold s_law
  by_cases c0 : ¬ h < 0 ∧ ¬ 4 ≤ h
  · by_cases c1 : ¬ l < 0 ∧ ¬ 6 ≤ l
    · rw [if_pos ⟨c0, c1⟩]
      obtain ⟨h1, h1_lt, h1_eq, h1_cl⟩ := tf_ok_nI (N := 4) (show tf_ok h _ from c0) rfl (by decide)
      try rw [h1_cl]
      obtain ⟨l1, l1_lt, l1_eq, l1_cl⟩ := tf_ok_nI (N := 6) (show tf_ok l _ from c1) rfl (by decide)
      try rw [l1_cl]
      subst h1_eq
      subst l1_eq
      by_cases e1 : ¬ 0 ≤ v
      · rw [if_pos e1]
        refine ⟨tf_rfS G S o 4, tf_Fn_of (own := RX11) false ⟨by decide, rfl, by decide⟩ (Nat.le_of_ble_eq_true rfl) trivial (fun x hx hR => ?_), tf_ms_ref ho hd hM 4, tf_fm_0⟩
        show tf_K x 0 0 G S 0 [some (.ref o), some (.int (nI h1)), some (.int (nI l1)), some (.int v), none, none] []
        refine tf_go hx ftX11_law 1 [] 1 [some (.ref o), some (.int (nI h1)), some (.int (nI l1)), some (.int v), none, none] [.int (nI h1)] S rfl ⟨by decide, by decide, rfl⟩ trivial ?_
        refine tf_cS hx ftX11_law (nx := 4) (As := [.int (nI h1)]) (rest := []) (st2 := [.int (if ¬ (nI h1) < 0 ∧ ¬ 4 ≤ (nI h1) then 1 else 0)]) (m_isHand (nI h1)) rfl lX11_62 rfl ⟨rfl, by decide, by decide, by decide, rfl, rfl⟩ ?_
        rw [if_pos c0]
        refine tf_go hx ftX11_law 1 [false] 7 [some (.ref o), some (.int (nI h1)), some (.int (nI l1)), some (.int v), none, none] [] S rfl ⟨by decide, by decide, rfl⟩ ⟨trivial, (by decide)⟩ ?_
        refine tf_go hx ftX11_law 2 [] 10 [some (.ref o), some (.int (nI h1)), some (.int (nI l1)), some (.int v), none, none] [.int 6, .int (nI l1)] S rfl ⟨by decide, by decide, rfl⟩ trivial ?_
        refine tf_cS hx ftX11_law (nx := 13) (As := [.int (nI l1), .int 6]) (rest := []) (st2 := [.int (if ¬ (nI l1) < 0 ∧ ¬ 6 ≤ (nI l1) then 1 else 0)]) (m_isIn (nI l1) 6) rfl lX11_22 rfl ⟨rfl, by decide, by decide, by decide, rfl, rfl⟩ ?_
        rw [if_pos c1]
        refine tf_go hx ftX11_law 1 [false] 16 [some (.ref o), some (.int (nI h1)), some (.int (nI l1)), some (.int v), none, none] [] S rfl ⟨by decide, by decide, rfl⟩ ⟨trivial, (by decide)⟩ ?_
        refine tf_go hx ftX11_law 3 [] 21 [some (.ref o), some (.int (nI h1)), some (.int (nI l1)), some (.int v), none, none] [.int 999, .int 0, .int v] S rfl ⟨by decide, by decide, rfl⟩ trivial ?_
        refine tf_cS hx ftX11_law (nx := 24) (As := [.int v, .int 0, .int 999]) (rest := []) (st2 := [.int (if ¬ 0 ≤ v then (-4) else if ¬ v ≤ 999 then (-6) else 0)]) (m_within v 0 999) rfl lX11_65 rfl ⟨rfl, by decide, by decide, by decide, rfl, rfl⟩ ?_
        rw [if_pos e1]
        refine tf_go hx ftX11_law 3 [] 32 [some (.ref o), some (.int (nI h1)), some (.int (nI l1)), some (.int v), some (.int (-4)), none] [.int (-4)] S rfl ⟨by decide, by decide, rfl⟩ trivial ?_
        refine tf_go hx ftX11_law 3 [false] 38 [some (.ref o), some (.int (nI h1)), some (.int (nI l1)), some (.int v), some (.int (-4)), none] [.int (-4), .ref o] S rfl ⟨by decide, by decide, rfl⟩ ⟨trivial, (by decide)⟩ ?_
        refine tf_cV hx ftX11_law (nx := 41) (As := [.int (-4)]) (rest := []) (st2 := [.int (-4)]) (m_ref4 ho) rfl lX11_26 (by first | assumption | rfl | decide) rfl ⟨rfl, by decide, by decide, by decide, rfl, rfl⟩ ?_
        exact tf_ret ftX11_law hR rfl ⟨by decide, by decide⟩ rfl rfl rfl
      · by_cases e2 : ¬ v ≤ 999
        · rw [if_neg e1, if_pos e2]
          refine ⟨tf_rfS G S o 6, tf_Fn_of (own := RX11) false ⟨by decide, rfl, by decide⟩ (Nat.le_of_ble_eq_true rfl) trivial (fun x hx hR => ?_), tf_ms_ref ho hd hM 6, tf_fm_0⟩
          show tf_K x 0 0 G S 0 [some (.ref o), some (.int (nI h1)), some (.int (nI l1)), some (.int v), none, none] []
          refine tf_go hx ftX11_law 1 [] 1 [some (.ref o), some (.int (nI h1)), some (.int (nI l1)), some (.int v), none, none] [.int (nI h1)] S rfl ⟨by decide, by decide, rfl⟩ trivial ?_
          refine tf_cS hx ftX11_law (nx := 4) (As := [.int (nI h1)]) (rest := []) (st2 := [.int (if ¬ (nI h1) < 0 ∧ ¬ 4 ≤ (nI h1) then 1 else 0)]) (m_isHand (nI h1)) rfl lX11_62 rfl ⟨rfl, by decide, by decide, by decide, rfl, rfl⟩ ?_
          rw [if_pos c0]
          refine tf_go hx ftX11_law 1 [false] 7 [some (.ref o), some (.int (nI h1)), some (.int (nI l1)), some (.int v), none, none] [] S rfl ⟨by decide, by decide, rfl⟩ ⟨trivial, (by decide)⟩ ?_
          refine tf_go hx ftX11_law 2 [] 10 [some (.ref o), some (.int (nI h1)), some (.int (nI l1)), some (.int v), none, none] [.int 6, .int (nI l1)] S rfl ⟨by decide, by decide, rfl⟩ trivial ?_
          refine tf_cS hx ftX11_law (nx := 13) (As := [.int (nI l1), .int 6]) (rest := []) (st2 := [.int (if ¬ (nI l1) < 0 ∧ ¬ 6 ≤ (nI l1) then 1 else 0)]) (m_isIn (nI l1) 6) rfl lX11_22 rfl ⟨rfl, by decide, by decide, by decide, rfl, rfl⟩ ?_
          rw [if_pos c1]
          refine tf_go hx ftX11_law 1 [false] 16 [some (.ref o), some (.int (nI h1)), some (.int (nI l1)), some (.int v), none, none] [] S rfl ⟨by decide, by decide, rfl⟩ ⟨trivial, (by decide)⟩ ?_
          refine tf_go hx ftX11_law 3 [] 21 [some (.ref o), some (.int (nI h1)), some (.int (nI l1)), some (.int v), none, none] [.int 999, .int 0, .int v] S rfl ⟨by decide, by decide, rfl⟩ trivial ?_
          refine tf_cS hx ftX11_law (nx := 24) (As := [.int v, .int 0, .int 999]) (rest := []) (st2 := [.int (if ¬ 0 ≤ v then (-4) else if ¬ v ≤ 999 then (-6) else 0)]) (m_within v 0 999) rfl lX11_65 rfl ⟨rfl, by decide, by decide, by decide, rfl, rfl⟩ ?_
          rw [if_neg e1, if_pos e2]
          refine tf_go hx ftX11_law 3 [] 32 [some (.ref o), some (.int (nI h1)), some (.int (nI l1)), some (.int v), some (.int (-6)), none] [.int (-6)] S rfl ⟨by decide, by decide, rfl⟩ trivial ?_
          refine tf_go hx ftX11_law 3 [false] 38 [some (.ref o), some (.int (nI h1)), some (.int (nI l1)), some (.int v), some (.int (-6)), none] [.int (-6), .ref o] S rfl ⟨by decide, by decide, rfl⟩ ⟨trivial, (by decide)⟩ ?_
          refine tf_cV hx ftX11_law (nx := 41) (As := [.int (-6)]) (rest := []) (st2 := [.int (-6)]) (m_ref6 ho) rfl lX11_26 (by first | assumption | rfl | decide) rfl ⟨rfl, by decide, by decide, by decide, rfl, rfl⟩ ?_
          exact tf_ret ftX11_law hR rfl ⟨by decide, by decide⟩ rfl rfl rfl
        · rw [if_neg e1, if_neg e2]
          obtain ⟨v1, v1_le, v1_eq⟩ := nI_of2 (M := 999) (n := 999) (by decide) (fun h => e1 (fun h2 => absurd h (Int32.not_lt.mpr h2))) (Classical.not_not.mp e2)
          have v1_cl : v.toNatClampNeg = v1 := by rw [v1_eq]; exact tf_cl_nI (by omega)
          rw [v1_cl]
          subst v1_eq
          refine ⟨tf_rw S (tf_rf G o 1) (tf_u A.1 (120 + 6 * h1 + l1) v1), tf_Fn_of (own := RX11) false ⟨by decide, rfl, by decide⟩ (Nat.le_of_ble_eq_true rfl) trivial (fun x hx hR => ?_), tf_ms_rw ho hd hM _, tf_fm_1⟩
          show tf_K x 0 0 G S 0 [some (.ref o), some (.int (nI h1)), some (.int (nI l1)), some (.int (nI v1)), none, none] []
          refine tf_go hx ftX11_law 1 [] 1 [some (.ref o), some (.int (nI h1)), some (.int (nI l1)), some (.int (nI v1)), none, none] [.int (nI h1)] S rfl ⟨by decide, by decide, rfl⟩ trivial ?_
          refine tf_cS hx ftX11_law (nx := 4) (As := [.int (nI h1)]) (rest := []) (st2 := [.int (if ¬ (nI h1) < 0 ∧ ¬ 4 ≤ (nI h1) then 1 else 0)]) (m_isHand (nI h1)) rfl lX11_62 rfl ⟨rfl, by decide, by decide, by decide, rfl, rfl⟩ ?_
          rw [if_pos c0]
          refine tf_go hx ftX11_law 1 [false] 7 [some (.ref o), some (.int (nI h1)), some (.int (nI l1)), some (.int (nI v1)), none, none] [] S rfl ⟨by decide, by decide, rfl⟩ ⟨trivial, (by decide)⟩ ?_
          refine tf_go hx ftX11_law 2 [] 10 [some (.ref o), some (.int (nI h1)), some (.int (nI l1)), some (.int (nI v1)), none, none] [.int 6, .int (nI l1)] S rfl ⟨by decide, by decide, rfl⟩ trivial ?_
          refine tf_cS hx ftX11_law (nx := 13) (As := [.int (nI l1), .int 6]) (rest := []) (st2 := [.int (if ¬ (nI l1) < 0 ∧ ¬ 6 ≤ (nI l1) then 1 else 0)]) (m_isIn (nI l1) 6) rfl lX11_22 rfl ⟨rfl, by decide, by decide, by decide, rfl, rfl⟩ ?_
          rw [if_pos c1]
          refine tf_go hx ftX11_law 1 [false] 16 [some (.ref o), some (.int (nI h1)), some (.int (nI l1)), some (.int (nI v1)), none, none] [] S rfl ⟨by decide, by decide, rfl⟩ ⟨trivial, (by decide)⟩ ?_
          refine tf_go hx ftX11_law 3 [] 21 [some (.ref o), some (.int (nI h1)), some (.int (nI l1)), some (.int (nI v1)), none, none] [.int 999, .int 0, .int (nI v1)] S rfl ⟨by decide, by decide, rfl⟩ trivial ?_
          refine tf_cS hx ftX11_law (nx := 24) (As := [.int (nI v1), .int 0, .int 999]) (rest := []) (st2 := [.int (if ¬ 0 ≤ (nI v1) then (-4) else if ¬ (nI v1) ≤ 999 then (-6) else 0)]) (m_within (nI v1) 0 999) rfl lX11_65 rfl ⟨rfl, by decide, by decide, by decide, rfl, rfl⟩ ?_
          rw [if_neg e1, if_neg e2]
          refine tf_go hx ftX11_law 3 [] 32 [some (.ref o), some (.int (nI h1)), some (.int (nI l1)), some (.int (nI v1)), some (.int 0), none] [.int 0] S rfl ⟨by decide, by decide, rfl⟩ trivial ?_
          refine tf_go hx ftX11_law 1 [true] 42 [some (.ref o), some (.int (nI h1)), some (.int (nI l1)), some (.int (nI v1)), some (.int 0), none] [] S rfl ⟨by decide, by decide, rfl⟩ ⟨trivial, (by decide)⟩ ?_
          refine tf_go hx ftX11_law 10 [] 56 [some (.ref o), some (.int (nI h1)), some (.int (nI l1)), some (.int (nI v1)), some (.int 0), none] [.int (S (tf_rf G o 1) (Int32.toNatClampNeg ((120 + (6 * (nI h1))) + (nI l1))))] S rfl ⟨by decide, by decide, rfl⟩ ⟨⟨trivial, ⟨by first | assumption | rfl | decide | omega, by first | assumption | rfl | decide | omega⟩⟩, ⟨Or.inl (by first | assumption | rfl | decide | omega), by first | assumption | exact tf_in (n := ((120 + (6 * h1)) + l1)) (tf_add (a := (120 + (6 * h1))) (b := l1) (tf_add (a := 120) (b := (6 * h1)) (rfl : (120 : Int32) = nI 120) (tf_mul (a := 6) (b := h1) (rfl : (6 : Int32) = nI 6) rfl)) rfl) (by first | assumption | rfl) (by omega) (by decide)⟩⟩ ?_
          rw [show (S (tf_rf G o 1) (Int32.toNatClampNeg ((120 + (6 * (nI h1))) + (nI l1)))) = nI (A.1 ((120 + (6 * h1)) + l1)) from (tf_rd hs (tf_add (a := (120 + (6 * h1))) (b := l1) (tf_add (a := 120) (b := (6 * h1)) (rfl : (120 : Int32) = nI 120) (tf_mul (a := 6) (b := h1) (rfl : (6 : Int32) = nI 6) rfl)) rfl) (by omega))]
          refine tf_go hx ftX11_law 11 [] 72 [some (.ref o), some (.int (nI h1)), some (.int (nI l1)), some (.int (nI v1)), some (.int 0), some (.int (nI (A.1 ((120 + (6 * h1)) + l1))))] [.int (nI v1), .int ((120 + (6 * (nI h1))) + (nI l1)), .ref (tf_rf G o 1)] S rfl ⟨by decide, by decide, rfl⟩ ⟨trivial, ⟨by first | assumption | rfl | decide | omega, by first | assumption | rfl | decide | omega⟩⟩ ?_
          rw [show ((120 + (6 * (nI h1))) + (nI l1)) = nI ((120 + (6 * h1)) + l1) from (tf_add (a := (120 + (6 * h1))) (b := l1) (tf_add (a := 120) (b := (6 * h1)) (rfl : (120 : Int32) = nI 120) (tf_mul (a := 6) (b := h1) (rfl : (6 : Int32) = nI 6) rfl)) rfl)]
          refine tf_go hx ftX11_law 1 [] 73 [some (.ref o), some (.int (nI h1)), some (.int (nI l1)), some (.int (nI v1)), some (.int 0), some (.int (nI (A.1 ((120 + (6 * h1)) + l1))))] [] (tf_set S (tf_rf G o 1) (Int32.toNatClampNeg (nI ((120 + (6 * h1)) + l1))) (nI v1)) rfl ⟨by decide, by decide, rfl⟩ ⟨trivial, ⟨by first | assumption | rfl | decide | omega, by first | assumption | exact tf_in (n := ((120 + (6 * h1)) + l1)) rfl (by first | assumption | rfl) (by omega) (by decide)⟩⟩ ?_
          rw [show Int32.toNatClampNeg (nI ((120 + (6 * h1)) + l1)) = ((120 + (6 * h1)) + l1) from tf_cln rfl (by omega)]
          rw [tf_rw_u hs]
          refine tf_go hx ftX11_law 1 [] 75 [some (.ref o), some (.int (nI h1)), some (.int (nI l1)), some (.int (nI v1)), some (.int 0), some (.int (nI (A.1 ((120 + (6 * h1)) + l1))))] [.int (nI (A.1 ((120 + (6 * h1)) + l1)))] (tf_rw S (tf_rf G o 1) (tf_u A.1 (120 + 6 * h1 + l1) v1)) rfl ⟨by decide, by decide, rfl⟩ trivial ?_
          exact tf_ret ftX11_law hR rfl ⟨by decide, by decide⟩ rfl rfl rfl
    · rw [if_neg (fun h => c1 h.2)]
      refine ⟨tf_rfS G S o 1, tf_Fn_of (own := RX11) false ⟨by decide, rfl, by decide⟩ (Nat.le_of_ble_eq_true rfl) trivial (fun x hx hR => ?_), tf_ms_ref ho hd hM 1, tf_fm_0⟩
      show tf_K x 0 0 G S 0 [some (.ref o), some (.int h), some (.int l), some (.int v), none, none] []
      refine tf_go hx ftX11_law 1 [] 1 [some (.ref o), some (.int h), some (.int l), some (.int v), none, none] [.int h] S rfl ⟨by decide, by decide, rfl⟩ trivial ?_
      refine tf_cS hx ftX11_law (nx := 4) (As := [.int h]) (rest := []) (st2 := [.int (if ¬ h < 0 ∧ ¬ 4 ≤ h then 1 else 0)]) (m_isHand h) rfl lX11_62 rfl ⟨rfl, by decide, by decide, by decide, rfl, rfl⟩ ?_
      rw [if_pos c0]
      refine tf_go hx ftX11_law 1 [false] 7 [some (.ref o), some (.int h), some (.int l), some (.int v), none, none] [] S rfl ⟨by decide, by decide, rfl⟩ ⟨trivial, (by decide)⟩ ?_
      refine tf_go hx ftX11_law 2 [] 10 [some (.ref o), some (.int h), some (.int l), some (.int v), none, none] [.int 6, .int l] S rfl ⟨by decide, by decide, rfl⟩ trivial ?_
      refine tf_cS hx ftX11_law (nx := 13) (As := [.int l, .int 6]) (rest := []) (st2 := [.int (if ¬ l < 0 ∧ ¬ 6 ≤ l then 1 else 0)]) (m_isIn l 6) rfl lX11_22 rfl ⟨rfl, by decide, by decide, by decide, rfl, rfl⟩ ?_
      rw [if_neg c1]
      refine tf_go hx ftX11_law 1 [true] 27 [some (.ref o), some (.int h), some (.int l), some (.int v), none, none] [] S rfl ⟨by decide, by decide, rfl⟩ ⟨trivial, (by decide)⟩ ?_
      refine tf_go hx ftX11_law 3 [] 32 [some (.ref o), some (.int h), some (.int l), some (.int v), some (.int (-1)), none] [.int (-1)] S rfl ⟨by decide, by decide, rfl⟩ trivial ?_
      refine tf_go hx ftX11_law 3 [false] 38 [some (.ref o), some (.int h), some (.int l), some (.int v), some (.int (-1)), none] [.int (-1), .ref o] S rfl ⟨by decide, by decide, rfl⟩ ⟨trivial, (by decide)⟩ ?_
      refine tf_cV hx ftX11_law (nx := 41) (As := [.int (-1)]) (rest := []) (st2 := [.int (-1)]) (m_ref1 ho) rfl lX11_26 (by first | assumption | rfl | decide) rfl ⟨rfl, by decide, by decide, by decide, rfl, rfl⟩ ?_
      exact tf_ret ftX11_law hR rfl ⟨by decide, by decide⟩ rfl rfl rfl
  · rw [if_neg (fun h => c0 h.1)]
    refine ⟨tf_rfS G S o 1, tf_Fn_of (own := RX11) false ⟨by decide, rfl, by decide⟩ (Nat.le_of_ble_eq_true rfl) trivial (fun x hx hR => ?_), tf_ms_ref ho hd hM 1, tf_fm_0⟩
    show tf_K x 0 0 G S 0 [some (.ref o), some (.int h), some (.int l), some (.int v), none, none] []
    refine tf_go hx ftX11_law 1 [] 1 [some (.ref o), some (.int h), some (.int l), some (.int v), none, none] [.int h] S rfl ⟨by decide, by decide, rfl⟩ trivial ?_
    refine tf_cS hx ftX11_law (nx := 4) (As := [.int h]) (rest := []) (st2 := [.int (if ¬ h < 0 ∧ ¬ 4 ≤ h then 1 else 0)]) (m_isHand h) rfl lX11_62 rfl ⟨rfl, by decide, by decide, by decide, rfl, rfl⟩ ?_
    rw [if_neg c0]
    refine tf_go hx ftX11_law 1 [true] 27 [some (.ref o), some (.int h), some (.int l), some (.int v), none, none] [] S rfl ⟨by decide, by decide, rfl⟩ ⟨trivial, (by decide)⟩ ?_
    refine tf_go hx ftX11_law 3 [] 32 [some (.ref o), some (.int h), some (.int l), some (.int v), some (.int (-1)), none] [.int (-1)] S rfl ⟨by decide, by decide, rfl⟩ trivial ?_
    refine tf_go hx ftX11_law 3 [false] 38 [some (.ref o), some (.int h), some (.int l), some (.int v), some (.int (-1)), none] [.int (-1), .ref o] S rfl ⟨by decide, by decide, rfl⟩ ⟨trivial, (by decide)⟩ ?_
    refine tf_cV hx ftX11_law (nx := 41) (As := [.int (-1)]) (rest := []) (st2 := [.int (-1)]) (m_ref1 ho) rfl lX11_26 (by first | assumption | rfl | decide) rfl ⟨rfl, by decide, by decide, by decide, rfl, rfl⟩ ?_
    exact tf_ret ftX11_law hR rfl ⟨by decide, by decide⟩ rfl rfl rfl

set_option maxHeartbeats 2000000 in
theorem p_pace {G : tf_G} {S : tf_Sg} {o : Nat} {A : tf_A} (h b p d : Int32) (ho : tf_mo G o) (hd : tf_md G o) (hA : tf_okA A) (hM : tf_ms G S o A)  : tf_pm mX11_pace 7 G S o [.ref o, .int h, .int b, .int p, .int d] (s_pace A h b p d) := by
  obtain ⟨h1, ⟨r0, t0, n0⟩, ⟨r1, t1, n1⟩, ⟨r2, t2, n2⟩, ⟨r4, t4, n4⟩⟩ := id ho
  obtain ⟨hg, hb, hA3, hA4, hA5, hA6⟩ := id hA
  have hs := hM.1
  have hf : tf_sf G S o A.1 := ⟨hM.1, hb⟩
  obtain ⟨⟨g1, g2, g3, g4⟩, g5, g6, g7, g8, g9, g10, g11⟩ := id hg
  unfold s_pace
  by_cases c0 : ¬ h < 0 ∧ ¬ 4 ≤ h
  · by_cases c1 : ¬ b < 0 ∧ ¬ 4 ≤ b
    · rw [if_pos ⟨c0, c1⟩]
      obtain ⟨h1, h1_lt, h1_eq, h1_cl⟩ := tf_ok_nI (N := 4) (show tf_ok h _ from c0) rfl (by decide)
      try rw [h1_cl]
      obtain ⟨b1, b1_lt, b1_eq, b1_cl⟩ := tf_ok_nI (N := 4) (show tf_ok b _ from c1) rfl (by decide)
      try rw [b1_cl]
      subst h1_eq
      subst b1_eq
      by_cases e1 : p < 1
      · rw [if_pos (Or.inl e1)]
        refine ⟨tf_rfS G S o 4, tf_Fn_of (own := RX11) false ⟨by decide, rfl, by decide⟩ (Nat.le_of_ble_eq_true rfl) trivial (fun x hx hR => ?_), tf_ms_ref ho hd hM 4, tf_fm_0⟩
        show tf_K x 0 0 G S 0 [some (.ref o), some (.int (nI h1)), some (.int (nI b1)), some (.int p), some (.int d)] []
        refine tf_go hx ftX11_pace 1 [] 1 [some (.ref o), some (.int (nI h1)), some (.int (nI b1)), some (.int p), some (.int d)] [.int (nI h1)] S rfl ⟨by decide, by decide, rfl⟩ trivial ?_
        refine tf_cS hx ftX11_pace (nx := 4) (As := [.int (nI h1)]) (rest := []) (st2 := [.int (if ¬ (nI h1) < 0 ∧ ¬ 4 ≤ (nI h1) then 1 else 0)]) (m_isHand (nI h1)) rfl lX11_62 rfl ⟨rfl, by decide, by decide, by decide, rfl, rfl⟩ ?_
        rw [if_pos c0]
        refine tf_go hx ftX11_pace 1 [false] 7 [some (.ref o), some (.int (nI h1)), some (.int (nI b1)), some (.int p), some (.int d)] [] S rfl ⟨by decide, by decide, rfl⟩ ⟨trivial, (by decide)⟩ ?_
        refine tf_go hx ftX11_pace 1 [] 8 [some (.ref o), some (.int (nI h1)), some (.int (nI b1)), some (.int p), some (.int d)] [.int (nI b1)] S rfl ⟨by decide, by decide, rfl⟩ trivial ?_
        refine tf_cS hx ftX11_pace (nx := 11) (As := [.int (nI b1)]) (rest := []) (st2 := [.int (if ¬ (nI b1) < 0 ∧ ¬ 4 ≤ (nI b1) then 1 else 0)]) (m_isBoard (nI b1)) rfl lX11_40 rfl ⟨rfl, by decide, by decide, by decide, rfl, rfl⟩ ?_
        rw [if_pos c1]
        refine tf_go hx ftX11_pace 1 [true] 20 [some (.ref o), some (.int (nI h1)), some (.int (nI b1)), some (.int p), some (.int d)] [] S rfl ⟨by decide, by decide, rfl⟩ ⟨trivial, (by decide)⟩ ?_
        refine tf_go hx ftX11_pace 2 [] 22 [some (.ref o), some (.int (nI h1)), some (.int (nI b1)), some (.int p), some (.int d)] [.int 1, .int p] S rfl ⟨by decide, by decide, rfl⟩ trivial ?_
        refine tf_go hx ftX11_pace 3 [true] 33 [some (.ref o), some (.int (nI h1)), some (.int (nI b1)), some (.int p), some (.int d)] [.int (-4), .ref o] S rfl ⟨by decide, by decide, rfl⟩ ⟨trivial, e1⟩ ?_
        refine tf_cV hx ftX11_pace (nx := 36) (As := [.int (-4)]) (rest := []) (st2 := [.int (-4)]) (m_ref4 ho) rfl lX11_26 (by first | assumption | rfl | decide) rfl ⟨rfl, by decide, by decide, by decide, rfl, rfl⟩ ?_
        exact tf_ret ftX11_pace hR rfl ⟨by decide, by decide⟩ rfl rfl rfl
      · by_cases e2 : d < 0
        · rw [if_pos (Or.inr e2)]
          refine ⟨tf_rfS G S o 4, tf_Fn_of (own := RX11) false ⟨by decide, rfl, by decide⟩ (Nat.le_of_ble_eq_true rfl) trivial (fun x hx hR => ?_), tf_ms_ref ho hd hM 4, tf_fm_0⟩
          show tf_K x 0 0 G S 0 [some (.ref o), some (.int (nI h1)), some (.int (nI b1)), some (.int p), some (.int d)] []
          refine tf_go hx ftX11_pace 1 [] 1 [some (.ref o), some (.int (nI h1)), some (.int (nI b1)), some (.int p), some (.int d)] [.int (nI h1)] S rfl ⟨by decide, by decide, rfl⟩ trivial ?_
          refine tf_cS hx ftX11_pace (nx := 4) (As := [.int (nI h1)]) (rest := []) (st2 := [.int (if ¬ (nI h1) < 0 ∧ ¬ 4 ≤ (nI h1) then 1 else 0)]) (m_isHand (nI h1)) rfl lX11_62 rfl ⟨rfl, by decide, by decide, by decide, rfl, rfl⟩ ?_
          rw [if_pos c0]
          refine tf_go hx ftX11_pace 1 [false] 7 [some (.ref o), some (.int (nI h1)), some (.int (nI b1)), some (.int p), some (.int d)] [] S rfl ⟨by decide, by decide, rfl⟩ ⟨trivial, (by decide)⟩ ?_
          refine tf_go hx ftX11_pace 1 [] 8 [some (.ref o), some (.int (nI h1)), some (.int (nI b1)), some (.int p), some (.int d)] [.int (nI b1)] S rfl ⟨by decide, by decide, rfl⟩ trivial ?_
          refine tf_cS hx ftX11_pace (nx := 11) (As := [.int (nI b1)]) (rest := []) (st2 := [.int (if ¬ (nI b1) < 0 ∧ ¬ 4 ≤ (nI b1) then 1 else 0)]) (m_isBoard (nI b1)) rfl lX11_40 rfl ⟨rfl, by decide, by decide, by decide, rfl, rfl⟩ ?_
          rw [if_pos c1]
          refine tf_go hx ftX11_pace 1 [true] 20 [some (.ref o), some (.int (nI h1)), some (.int (nI b1)), some (.int p), some (.int d)] [] S rfl ⟨by decide, by decide, rfl⟩ ⟨trivial, (by decide)⟩ ?_
          refine tf_go hx ftX11_pace 2 [] 22 [some (.ref o), some (.int (nI h1)), some (.int (nI b1)), some (.int p), some (.int d)] [.int 1, .int p] S rfl ⟨by decide, by decide, rfl⟩ trivial ?_
          refine tf_go hx ftX11_pace 1 [false] 25 [some (.ref o), some (.int (nI h1)), some (.int (nI b1)), some (.int p), some (.int d)] [] S rfl ⟨by decide, by decide, rfl⟩ ⟨trivial, e1⟩ ?_
          refine tf_go hx ftX11_pace 1 [] 27 [some (.ref o), some (.int (nI h1)), some (.int (nI b1)), some (.int p), some (.int d)] [.int d] S rfl ⟨by decide, by decide, rfl⟩ trivial ?_
          refine tf_go hx ftX11_pace 3 [false] 33 [some (.ref o), some (.int (nI h1)), some (.int (nI b1)), some (.int p), some (.int d)] [.int (-4), .ref o] S rfl ⟨by decide, by decide, rfl⟩ ⟨trivial, (Int32.not_le.mpr e2)⟩ ?_
          refine tf_cV hx ftX11_pace (nx := 36) (As := [.int (-4)]) (rest := []) (st2 := [.int (-4)]) (m_ref4 ho) rfl lX11_26 (by first | assumption | rfl | decide) rfl ⟨rfl, by decide, by decide, by decide, rfl, rfl⟩ ?_
          exact tf_ret ftX11_pace hR rfl ⟨by decide, by decide⟩ rfl rfl rfl
        · rw [if_neg (by rintro (h | h); exact e1 h; exact e2 h)]
          by_cases e3 : 9 < p
          · rw [if_pos (Or.inl e3)]
            refine ⟨tf_rfS G S o 6, tf_Fn_of (own := RX11) false ⟨by decide, rfl, by decide⟩ (Nat.le_of_ble_eq_true rfl) trivial (fun x hx hR => ?_), tf_ms_ref ho hd hM 6, tf_fm_0⟩
            show tf_K x 0 0 G S 0 [some (.ref o), some (.int (nI h1)), some (.int (nI b1)), some (.int p), some (.int d)] []
            refine tf_go hx ftX11_pace 1 [] 1 [some (.ref o), some (.int (nI h1)), some (.int (nI b1)), some (.int p), some (.int d)] [.int (nI h1)] S rfl ⟨by decide, by decide, rfl⟩ trivial ?_
            refine tf_cS hx ftX11_pace (nx := 4) (As := [.int (nI h1)]) (rest := []) (st2 := [.int (if ¬ (nI h1) < 0 ∧ ¬ 4 ≤ (nI h1) then 1 else 0)]) (m_isHand (nI h1)) rfl lX11_62 rfl ⟨rfl, by decide, by decide, by decide, rfl, rfl⟩ ?_
            rw [if_pos c0]
            refine tf_go hx ftX11_pace 1 [false] 7 [some (.ref o), some (.int (nI h1)), some (.int (nI b1)), some (.int p), some (.int d)] [] S rfl ⟨by decide, by decide, rfl⟩ ⟨trivial, (by decide)⟩ ?_
            refine tf_go hx ftX11_pace 1 [] 8 [some (.ref o), some (.int (nI h1)), some (.int (nI b1)), some (.int p), some (.int d)] [.int (nI b1)] S rfl ⟨by decide, by decide, rfl⟩ trivial ?_
            refine tf_cS hx ftX11_pace (nx := 11) (As := [.int (nI b1)]) (rest := []) (st2 := [.int (if ¬ (nI b1) < 0 ∧ ¬ 4 ≤ (nI b1) then 1 else 0)]) (m_isBoard (nI b1)) rfl lX11_40 rfl ⟨rfl, by decide, by decide, by decide, rfl, rfl⟩ ?_
            rw [if_pos c1]
            refine tf_go hx ftX11_pace 1 [true] 20 [some (.ref o), some (.int (nI h1)), some (.int (nI b1)), some (.int p), some (.int d)] [] S rfl ⟨by decide, by decide, rfl⟩ ⟨trivial, (by decide)⟩ ?_
            refine tf_go hx ftX11_pace 2 [] 22 [some (.ref o), some (.int (nI h1)), some (.int (nI b1)), some (.int p), some (.int d)] [.int 1, .int p] S rfl ⟨by decide, by decide, rfl⟩ trivial ?_
            refine tf_go hx ftX11_pace 1 [false] 25 [some (.ref o), some (.int (nI h1)), some (.int (nI b1)), some (.int p), some (.int d)] [] S rfl ⟨by decide, by decide, rfl⟩ ⟨trivial, e1⟩ ?_
            refine tf_go hx ftX11_pace 1 [] 27 [some (.ref o), some (.int (nI h1)), some (.int (nI b1)), some (.int p), some (.int d)] [.int d] S rfl ⟨by decide, by decide, rfl⟩ trivial ?_
            refine tf_go hx ftX11_pace 1 [true] 37 [some (.ref o), some (.int (nI h1)), some (.int (nI b1)), some (.int p), some (.int d)] [] S rfl ⟨by decide, by decide, rfl⟩ ⟨trivial, (Int32.not_lt.mp e2)⟩ ?_
            refine tf_go hx ftX11_pace 2 [] 40 [some (.ref o), some (.int (nI h1)), some (.int (nI b1)), some (.int p), some (.int d)] [.int 9, .int p] S rfl ⟨by decide, by decide, rfl⟩ trivial ?_
            refine tf_go hx ftX11_pace 3 [true] 54 [some (.ref o), some (.int (nI h1)), some (.int (nI b1)), some (.int p), some (.int d)] [.int (-6), .ref o] S rfl ⟨by decide, by decide, rfl⟩ ⟨trivial, e3⟩ ?_
            refine tf_cV hx ftX11_pace (nx := 57) (As := [.int (-6)]) (rest := []) (st2 := [.int (-6)]) (m_ref6 ho) rfl lX11_26 (by first | assumption | rfl | decide) rfl ⟨rfl, by decide, by decide, by decide, rfl, rfl⟩ ?_
            refine tf_go hx ftX11_pace 1 [] 69 [some (.ref o), some (.int (nI h1)), some (.int (nI b1)), some (.int p), some (.int d)] [.int (-6)] (tf_rfS G S o 6) rfl ⟨by decide, by decide, rfl⟩ trivial ?_
            exact tf_ret ftX11_pace hR rfl ⟨by decide, by decide⟩ rfl rfl rfl
          · by_cases e4 : 9999 < d
            · rw [if_pos (Or.inr e4)]
              refine ⟨tf_rfS G S o 6, tf_Fn_of (own := RX11) false ⟨by decide, rfl, by decide⟩ (Nat.le_of_ble_eq_true rfl) trivial (fun x hx hR => ?_), tf_ms_ref ho hd hM 6, tf_fm_0⟩
              show tf_K x 0 0 G S 0 [some (.ref o), some (.int (nI h1)), some (.int (nI b1)), some (.int p), some (.int d)] []
              refine tf_go hx ftX11_pace 1 [] 1 [some (.ref o), some (.int (nI h1)), some (.int (nI b1)), some (.int p), some (.int d)] [.int (nI h1)] S rfl ⟨by decide, by decide, rfl⟩ trivial ?_
              refine tf_cS hx ftX11_pace (nx := 4) (As := [.int (nI h1)]) (rest := []) (st2 := [.int (if ¬ (nI h1) < 0 ∧ ¬ 4 ≤ (nI h1) then 1 else 0)]) (m_isHand (nI h1)) rfl lX11_62 rfl ⟨rfl, by decide, by decide, by decide, rfl, rfl⟩ ?_
              rw [if_pos c0]
              refine tf_go hx ftX11_pace 1 [false] 7 [some (.ref o), some (.int (nI h1)), some (.int (nI b1)), some (.int p), some (.int d)] [] S rfl ⟨by decide, by decide, rfl⟩ ⟨trivial, (by decide)⟩ ?_
              refine tf_go hx ftX11_pace 1 [] 8 [some (.ref o), some (.int (nI h1)), some (.int (nI b1)), some (.int p), some (.int d)] [.int (nI b1)] S rfl ⟨by decide, by decide, rfl⟩ trivial ?_
              refine tf_cS hx ftX11_pace (nx := 11) (As := [.int (nI b1)]) (rest := []) (st2 := [.int (if ¬ (nI b1) < 0 ∧ ¬ 4 ≤ (nI b1) then 1 else 0)]) (m_isBoard (nI b1)) rfl lX11_40 rfl ⟨rfl, by decide, by decide, by decide, rfl, rfl⟩ ?_
              rw [if_pos c1]
              refine tf_go hx ftX11_pace 1 [true] 20 [some (.ref o), some (.int (nI h1)), some (.int (nI b1)), some (.int p), some (.int d)] [] S rfl ⟨by decide, by decide, rfl⟩ ⟨trivial, (by decide)⟩ ?_
              refine tf_go hx ftX11_pace 2 [] 22 [some (.ref o), some (.int (nI h1)), some (.int (nI b1)), some (.int p), some (.int d)] [.int 1, .int p] S rfl ⟨by decide, by decide, rfl⟩ trivial ?_
              refine tf_go hx ftX11_pace 1 [false] 25 [some (.ref o), some (.int (nI h1)), some (.int (nI b1)), some (.int p), some (.int d)] [] S rfl ⟨by decide, by decide, rfl⟩ ⟨trivial, e1⟩ ?_
              refine tf_go hx ftX11_pace 1 [] 27 [some (.ref o), some (.int (nI h1)), some (.int (nI b1)), some (.int p), some (.int d)] [.int d] S rfl ⟨by decide, by decide, rfl⟩ trivial ?_
              refine tf_go hx ftX11_pace 1 [true] 37 [some (.ref o), some (.int (nI h1)), some (.int (nI b1)), some (.int p), some (.int d)] [] S rfl ⟨by decide, by decide, rfl⟩ ⟨trivial, (Int32.not_lt.mp e2)⟩ ?_
              refine tf_go hx ftX11_pace 2 [] 40 [some (.ref o), some (.int (nI h1)), some (.int (nI b1)), some (.int p), some (.int d)] [.int 9, .int p] S rfl ⟨by decide, by decide, rfl⟩ trivial ?_
              refine tf_go hx ftX11_pace 1 [false] 43 [some (.ref o), some (.int (nI h1)), some (.int (nI b1)), some (.int p), some (.int d)] [] S rfl ⟨by decide, by decide, rfl⟩ ⟨trivial, e3⟩ ?_
              refine tf_go hx ftX11_pace 2 [] 48 [some (.ref o), some (.int (nI h1)), some (.int (nI b1)), some (.int p), some (.int d)] [.int 9999, .int d] S rfl ⟨by decide, by decide, rfl⟩ trivial ?_
              refine tf_go hx ftX11_pace 3 [false] 54 [some (.ref o), some (.int (nI h1)), some (.int (nI b1)), some (.int p), some (.int d)] [.int (-6), .ref o] S rfl ⟨by decide, by decide, rfl⟩ ⟨trivial, (Int32.not_le.mpr e4)⟩ ?_
              refine tf_cV hx ftX11_pace (nx := 57) (As := [.int (-6)]) (rest := []) (st2 := [.int (-6)]) (m_ref6 ho) rfl lX11_26 (by first | assumption | rfl | decide) rfl ⟨rfl, by decide, by decide, by decide, rfl, rfl⟩ ?_
              refine tf_go hx ftX11_pace 1 [] 69 [some (.ref o), some (.int (nI h1)), some (.int (nI b1)), some (.int p), some (.int d)] [.int (-6)] (tf_rfS G S o 6) rfl ⟨by decide, by decide, rfl⟩ trivial ?_
              exact tf_ret ftX11_pace hR rfl ⟨by decide, by decide⟩ rfl rfl rfl
            · rw [if_neg (by rintro (h | h); exact e3 h; exact e4 h)]
              obtain ⟨p1, p1_le, p1_eq⟩ := nI_of2 (M := 9) (n := 9) (x := p) (by decide) (fun h => e1 (Int32.lt_trans h (by decide))) (Int32.not_lt.mp e3)
              obtain ⟨d1, d1_le, d1_eq⟩ := nI_of2 (M := 9999) (n := 9999) (x := d) (by decide) e2 (Int32.not_lt.mp e4)
              subst p1_eq
              subst d1_eq
              rw [tf_cl_nI (show p1 < 2147483648 by omega), tf_cl_nI (show d1 < 2147483648 by omega)]
              refine ⟨S, tf_Fn_of (own := RX11) false ⟨by decide, rfl, by decide⟩ (Nat.le_of_ble_eq_true rfl) trivial (fun x hx hR => ?_), hM, tf_fm_id⟩
              show tf_K x 0 0 G S 0 [some (.ref o), some (.int (nI h1)), some (.int (nI b1)), some (.int (nI p1)), some (.int (nI d1))] []
              refine tf_go hx ftX11_pace 1 [] 1 [some (.ref o), some (.int (nI h1)), some (.int (nI b1)), some (.int (nI p1)), some (.int (nI d1))] [.int (nI h1)] S rfl ⟨by decide, by decide, rfl⟩ trivial ?_
              refine tf_cS hx ftX11_pace (nx := 4) (As := [.int (nI h1)]) (rest := []) (st2 := [.int (if ¬ (nI h1) < 0 ∧ ¬ 4 ≤ (nI h1) then 1 else 0)]) (m_isHand (nI h1)) rfl lX11_62 rfl ⟨rfl, by decide, by decide, by decide, rfl, rfl⟩ ?_
              rw [if_pos c0]
              refine tf_go hx ftX11_pace 1 [false] 7 [some (.ref o), some (.int (nI h1)), some (.int (nI b1)), some (.int (nI p1)), some (.int (nI d1))] [] S rfl ⟨by decide, by decide, rfl⟩ ⟨trivial, (by decide)⟩ ?_
              refine tf_go hx ftX11_pace 1 [] 8 [some (.ref o), some (.int (nI h1)), some (.int (nI b1)), some (.int (nI p1)), some (.int (nI d1))] [.int (nI b1)] S rfl ⟨by decide, by decide, rfl⟩ trivial ?_
              refine tf_cS hx ftX11_pace (nx := 11) (As := [.int (nI b1)]) (rest := []) (st2 := [.int (if ¬ (nI b1) < 0 ∧ ¬ 4 ≤ (nI b1) then 1 else 0)]) (m_isBoard (nI b1)) rfl lX11_40 rfl ⟨rfl, by decide, by decide, by decide, rfl, rfl⟩ ?_
              rw [if_pos c1]
              refine tf_go hx ftX11_pace 1 [true] 20 [some (.ref o), some (.int (nI h1)), some (.int (nI b1)), some (.int (nI p1)), some (.int (nI d1))] [] S rfl ⟨by decide, by decide, rfl⟩ ⟨trivial, (by decide)⟩ ?_
              refine tf_go hx ftX11_pace 2 [] 22 [some (.ref o), some (.int (nI h1)), some (.int (nI b1)), some (.int (nI p1)), some (.int (nI d1))] [.int 1, .int (nI p1)] S rfl ⟨by decide, by decide, rfl⟩ trivial ?_
              refine tf_go hx ftX11_pace 1 [false] 25 [some (.ref o), some (.int (nI h1)), some (.int (nI b1)), some (.int (nI p1)), some (.int (nI d1))] [] S rfl ⟨by decide, by decide, rfl⟩ ⟨trivial, e1⟩ ?_
              refine tf_go hx ftX11_pace 1 [] 27 [some (.ref o), some (.int (nI h1)), some (.int (nI b1)), some (.int (nI p1)), some (.int (nI d1))] [.int (nI d1)] S rfl ⟨by decide, by decide, rfl⟩ trivial ?_
              refine tf_go hx ftX11_pace 1 [true] 37 [some (.ref o), some (.int (nI h1)), some (.int (nI b1)), some (.int (nI p1)), some (.int (nI d1))] [] S rfl ⟨by decide, by decide, rfl⟩ ⟨trivial, (Int32.not_lt.mp e2)⟩ ?_
              refine tf_go hx ftX11_pace 2 [] 40 [some (.ref o), some (.int (nI h1)), some (.int (nI b1)), some (.int (nI p1)), some (.int (nI d1))] [.int 9, .int (nI p1)] S rfl ⟨by decide, by decide, rfl⟩ trivial ?_
              refine tf_go hx ftX11_pace 1 [false] 43 [some (.ref o), some (.int (nI h1)), some (.int (nI b1)), some (.int (nI p1)), some (.int (nI d1))] [] S rfl ⟨by decide, by decide, rfl⟩ ⟨trivial, e3⟩ ?_
              refine tf_go hx ftX11_pace 2 [] 48 [some (.ref o), some (.int (nI h1)), some (.int (nI b1)), some (.int (nI p1)), some (.int (nI d1))] [.int 9999, .int (nI d1)] S rfl ⟨by decide, by decide, rfl⟩ trivial ?_
              refine tf_go hx ftX11_pace 6 [true] 66 [some (.ref o), some (.int (nI h1)), some (.int (nI b1)), some (.int (nI p1)), some (.int (nI d1))] [.int (nI d1), .int (nI p1), .int (nI b1), .int (nI h1), .ref o] S rfl ⟨by decide, by decide, rfl⟩ ⟨trivial, (Int32.not_lt.mp e4)⟩ ?_
              refine tf_cV hx ftX11_pace (nx := 69) (As := [.int (nI h1), .int (nI b1), .int (nI p1), .int (nI d1)]) (rest := []) (st2 := [.int (nI (tf_pc A.1 h1 b1 p1 d1))]) (m_paceOf h1 b1 p1 d1 ho hf hg h1_lt b1_lt p1_le) rfl lX11_132 (by first | assumption | rfl | decide) rfl ⟨rfl, by decide, by decide, by decide, rfl, rfl⟩ ?_
              exact tf_ret ftX11_pace hR rfl ⟨by decide, by decide⟩ rfl rfl rfl
    · rw [if_neg (fun h => c1 h.2)]
      refine ⟨tf_rfS G S o 1, tf_Fn_of (own := RX11) false ⟨by decide, rfl, by decide⟩ (Nat.le_of_ble_eq_true rfl) trivial (fun x hx hR => ?_), tf_ms_ref ho hd hM 1, tf_fm_0⟩
      show tf_K x 0 0 G S 0 [some (.ref o), some (.int h), some (.int b), some (.int p), some (.int d)] []
      refine tf_go hx ftX11_pace 1 [] 1 [some (.ref o), some (.int h), some (.int b), some (.int p), some (.int d)] [.int h] S rfl ⟨by decide, by decide, rfl⟩ trivial ?_
      refine tf_cS hx ftX11_pace (nx := 4) (As := [.int h]) (rest := []) (st2 := [.int (if ¬ h < 0 ∧ ¬ 4 ≤ h then 1 else 0)]) (m_isHand h) rfl lX11_62 rfl ⟨rfl, by decide, by decide, by decide, rfl, rfl⟩ ?_
      rw [if_pos c0]
      refine tf_go hx ftX11_pace 1 [false] 7 [some (.ref o), some (.int h), some (.int b), some (.int p), some (.int d)] [] S rfl ⟨by decide, by decide, rfl⟩ ⟨trivial, (by decide)⟩ ?_
      refine tf_go hx ftX11_pace 1 [] 8 [some (.ref o), some (.int h), some (.int b), some (.int p), some (.int d)] [.int b] S rfl ⟨by decide, by decide, rfl⟩ trivial ?_
      refine tf_cS hx ftX11_pace (nx := 11) (As := [.int b]) (rest := []) (st2 := [.int (if ¬ b < 0 ∧ ¬ 4 ≤ b then 1 else 0)]) (m_isBoard b) rfl lX11_40 rfl ⟨rfl, by decide, by decide, by decide, rfl, rfl⟩ ?_
      rw [if_neg c1]
      refine tf_go hx ftX11_pace 1 [false] 14 [some (.ref o), some (.int h), some (.int b), some (.int p), some (.int d)] [] S rfl ⟨by decide, by decide, rfl⟩ ⟨trivial, (by decide)⟩ ?_
      refine tf_go hx ftX11_pace 2 [] 16 [some (.ref o), some (.int h), some (.int b), some (.int p), some (.int d)] [.int (-1), .ref o] S rfl ⟨by decide, by decide, rfl⟩ trivial ?_
      refine tf_cV hx ftX11_pace (nx := 19) (As := [.int (-1)]) (rest := []) (st2 := [.int (-1)]) (m_ref1 ho) rfl lX11_26 (by first | assumption | rfl | decide) rfl ⟨rfl, by decide, by decide, by decide, rfl, rfl⟩ ?_
      exact tf_ret ftX11_pace hR rfl ⟨by decide, by decide⟩ rfl rfl rfl
  · rw [if_neg (fun h => c0 h.1)]
    refine ⟨tf_rfS G S o 1, tf_Fn_of (own := RX11) false ⟨by decide, rfl, by decide⟩ (Nat.le_of_ble_eq_true rfl) trivial (fun x hx hR => ?_), tf_ms_ref ho hd hM 1, tf_fm_0⟩
    show tf_K x 0 0 G S 0 [some (.ref o), some (.int h), some (.int b), some (.int p), some (.int d)] []
    refine tf_go hx ftX11_pace 1 [] 1 [some (.ref o), some (.int h), some (.int b), some (.int p), some (.int d)] [.int h] S rfl ⟨by decide, by decide, rfl⟩ trivial ?_
    refine tf_cS hx ftX11_pace (nx := 4) (As := [.int h]) (rest := []) (st2 := [.int (if ¬ h < 0 ∧ ¬ 4 ≤ h then 1 else 0)]) (m_isHand h) rfl lX11_62 rfl ⟨rfl, by decide, by decide, by decide, rfl, rfl⟩ ?_
    rw [if_neg c0]
    refine tf_go hx ftX11_pace 1 [true] 14 [some (.ref o), some (.int h), some (.int b), some (.int p), some (.int d)] [] S rfl ⟨by decide, by decide, rfl⟩ ⟨trivial, (by decide)⟩ ?_
    refine tf_go hx ftX11_pace 2 [] 16 [some (.ref o), some (.int h), some (.int b), some (.int p), some (.int d)] [.int (-1), .ref o] S rfl ⟨by decide, by decide, rfl⟩ trivial ?_
    refine tf_cV hx ftX11_pace (nx := 19) (As := [.int (-1)]) (rest := []) (st2 := [.int (-1)]) (m_ref1 ho) rfl lX11_26 (by first | assumption | rfl | decide) rfl ⟨rfl, by decide, by decide, by decide, rfl, rfl⟩ ?_
    exact tf_ret ftX11_pace hR rfl ⟨by decide, by decide⟩ rfl rfl rfl

set_option maxHeartbeats 2000000 in
theorem p_sign {G : tf_G} {S : tf_Sg} {o : Nat} {A : tf_A} (t : Nat) (i : Int32) (ho : tf_mo G o) (hd : tf_md G o) (hA : tf_okA A) (hM : tf_ms G S o A) (ht : t < 2) : tf_pm mX11_sign 2 G S o [.ref o, .int (nI t), .int i] (s_sign A t i) := by
  obtain ⟨h1, ⟨r0, t0, n0⟩, ⟨r1, t1, n1⟩, ⟨r2, t2, n2⟩, ⟨r4, t4, n4⟩⟩ := id ho
  obtain ⟨hg, hb, hA3, hA4, hA5, hA6⟩ := id hA
  have hs := hM.1
  have hf : tf_sf G S o A.1 := ⟨hM.1, hb⟩
  obtain ⟨⟨g1, g2, g3, g4⟩, g5, g6, g7, g8, g9, g10, g11⟩ := id hg
  unfold s_sign
  by_cases c0 : t = 0
  · rw [show (if t ≠ 0 then 364 else 365) = 365 from if_neg (fun h => h c0), show (if t ≠ 0 then 144 else 184) = 184 from if_neg (fun h => h c0)]
    by_cases c1 : ¬ i < 0 ∧ ¬ nI (A.1 365) ≤ i
    · rw [if_pos c1]
      obtain ⟨i1, i1_lt, i1_eq, i1_cl⟩ := tf_ok_nI (N := A.1 365) (show tf_ok i _ from c1) rfl (by omega)
      try rw [i1_cl]
      subst i1_eq
      refine ⟨S, tf_Fn_of (own := RX11) false ⟨by decide, rfl, by decide⟩ (Nat.le_of_ble_eq_true rfl) trivial (fun x hx hR => ?_), hM, tf_fm_id⟩
      show tf_K x 0 0 G S 0 [some (.ref o), some (.int (nI t)), some (.int (nI i1))] []
      refine tf_go hx ftX11_sign 4 [] 6 [some (.ref o), some (.int (nI t)), some (.int (nI i1))] [.int (nI t), .ref (tf_rf G o 1), .int (nI i1)] S rfl ⟨by decide, by decide, rfl⟩ ⟨trivial, ⟨by first | assumption | rfl | decide | omega, by first | assumption | rfl | decide | omega⟩⟩ ?_
      refine tf_go hx ftX11_sign 1 [true] 15 [some (.ref o), some (.int (nI t)), some (.int (nI i1))] [.ref (tf_rf G o 1), .int (nI i1)] S rfl ⟨by decide, by decide, rfl⟩ ⟨trivial, (tf_eqT (a := t) (b := 0) rfl (rfl : (0 : Int32) = nI 0) (by omega))⟩ ?_
      refine tf_go hx ftX11_sign 2 [] 19 [some (.ref o), some (.int (nI t)), some (.int (nI i1))] [.int (S (tf_rf G o 1) (Int32.toNatClampNeg 365)), .int (nI i1)] S rfl ⟨by decide, by decide, rfl⟩ ⟨trivial, ⟨Or.inl (by first | assumption | rfl | decide | omega), by first | assumption | exact tf_in (n := 365) (rfl : (365 : Int32) = nI 365) (by first | assumption | rfl) (by omega) (by decide)⟩⟩ ?_
      rw [show (S (tf_rf G o 1) (Int32.toNatClampNeg 365)) = nI (A.1 365) from (tf_rd hs (rfl : (365 : Int32) = nI 365) (by omega))]
      refine tf_cS hx ftX11_sign (nx := 22) (As := [.int (nI i1), .int (nI (A.1 365))]) (rest := []) (st2 := [.int (if ¬ (nI i1) < 0 ∧ ¬ nI (A.1 365) ≤ (nI i1) then 1 else 0)]) (m_isIn (nI i1) (nI (A.1 365))) rfl lX11_22 rfl ⟨rfl, by decide, by decide, by decide, rfl, rfl⟩ ?_
      rw [if_pos c1]
      refine tf_go hx ftX11_sign 1 [false] 25 [some (.ref o), some (.int (nI t)), some (.int (nI i1))] [] S rfl ⟨by decide, by decide, rfl⟩ ⟨trivial, (by decide)⟩ ?_
      refine tf_go hx ftX11_sign 3 [] 30 [some (.ref o), some (.int (nI t)), some (.int (nI i1))] [.int (nI t), .ref (tf_rf G o 1)] S rfl ⟨by decide, by decide, rfl⟩ ⟨trivial, ⟨by first | assumption | rfl | decide | omega, by first | assumption | rfl | decide | omega⟩⟩ ?_
      refine tf_go hx ftX11_sign 1 [true] 39 [some (.ref o), some (.int (nI t)), some (.int (nI i1))] [.ref (tf_rf G o 1)] S rfl ⟨by decide, by decide, rfl⟩ ⟨trivial, (tf_eqT (a := t) (b := 0) rfl (rfl : (0 : Int32) = nI 0) (by omega))⟩ ?_
      refine tf_go hx ftX11_sign 5 [] 50 [some (.ref o), some (.int (nI t)), some (.int (nI i1))] [.int (S (tf_rf G o 1) (Int32.toNatClampNeg (184 + (nI i1))))] S rfl ⟨by decide, by decide, rfl⟩ ⟨trivial, ⟨Or.inl (by first | assumption | rfl | decide | omega), by first | assumption | exact tf_in (n := (184 + i1)) (tf_add (a := 184) (b := i1) (rfl : (184 : Int32) = nI 184) rfl) (by first | assumption | rfl) (by omega) (by decide)⟩⟩ ?_
      rw [show (S (tf_rf G o 1) (Int32.toNatClampNeg (184 + (nI i1)))) = nI (A.1 (184 + i1)) from (tf_rd hs (tf_add (a := 184) (b := i1) (rfl : (184 : Int32) = nI 184) rfl) (by omega))]
      exact tf_ret ftX11_sign hR rfl ⟨by decide, by decide⟩ rfl rfl rfl
    · rw [if_neg c1]
      refine ⟨S, tf_Fn_of (own := RX11) false ⟨by decide, rfl, by decide⟩ (Nat.le_of_ble_eq_true rfl) trivial (fun x hx hR => ?_), hM, tf_fm_id⟩
      show tf_K x 0 0 G S 0 [some (.ref o), some (.int (nI t)), some (.int i)] []
      refine tf_go hx ftX11_sign 4 [] 6 [some (.ref o), some (.int (nI t)), some (.int i)] [.int (nI t), .ref (tf_rf G o 1), .int i] S rfl ⟨by decide, by decide, rfl⟩ ⟨trivial, ⟨by first | assumption | rfl | decide | omega, by first | assumption | rfl | decide | omega⟩⟩ ?_
      refine tf_go hx ftX11_sign 1 [true] 15 [some (.ref o), some (.int (nI t)), some (.int i)] [.ref (tf_rf G o 1), .int i] S rfl ⟨by decide, by decide, rfl⟩ ⟨trivial, (tf_eqT (a := t) (b := 0) rfl (rfl : (0 : Int32) = nI 0) (by omega))⟩ ?_
      refine tf_go hx ftX11_sign 2 [] 19 [some (.ref o), some (.int (nI t)), some (.int i)] [.int (S (tf_rf G o 1) (Int32.toNatClampNeg 365)), .int i] S rfl ⟨by decide, by decide, rfl⟩ ⟨trivial, ⟨Or.inl (by first | assumption | rfl | decide | omega), by first | assumption | exact tf_in (n := 365) (rfl : (365 : Int32) = nI 365) (by first | assumption | rfl) (by omega) (by decide)⟩⟩ ?_
      rw [show (S (tf_rf G o 1) (Int32.toNatClampNeg 365)) = nI (A.1 365) from (tf_rd hs (rfl : (365 : Int32) = nI 365) (by omega))]
      refine tf_cS hx ftX11_sign (nx := 22) (As := [.int i, .int (nI (A.1 365))]) (rest := []) (st2 := [.int (if ¬ i < 0 ∧ ¬ nI (A.1 365) ≤ i then 1 else 0)]) (m_isIn i (nI (A.1 365))) rfl lX11_22 rfl ⟨rfl, by decide, by decide, by decide, rfl, rfl⟩ ?_
      rw [if_neg c1]
      refine tf_go hx ftX11_sign 2 [true] 50 [some (.ref o), some (.int (nI t)), some (.int i)] [.int (-9)] S rfl ⟨by decide, by decide, rfl⟩ ⟨trivial, (by decide)⟩ ?_
      exact tf_ret ftX11_sign hR rfl ⟨by decide, by decide⟩ rfl rfl rfl
  · rw [show (if t ≠ 0 then 364 else 365) = 364 from if_pos c0, show (if t ≠ 0 then 144 else 184) = 144 from if_pos c0]
    by_cases c1 : ¬ i < 0 ∧ ¬ nI (A.1 364) ≤ i
    · rw [if_pos c1]
      obtain ⟨i1, i1_lt, i1_eq, i1_cl⟩ := tf_ok_nI (N := A.1 364) (show tf_ok i _ from c1) rfl (by omega)
      try rw [i1_cl]
      subst i1_eq
      refine ⟨S, tf_Fn_of (own := RX11) false ⟨by decide, rfl, by decide⟩ (Nat.le_of_ble_eq_true rfl) trivial (fun x hx hR => ?_), hM, tf_fm_id⟩
      show tf_K x 0 0 G S 0 [some (.ref o), some (.int (nI t)), some (.int (nI i1))] []
      refine tf_go hx ftX11_sign 4 [] 6 [some (.ref o), some (.int (nI t)), some (.int (nI i1))] [.int (nI t), .ref (tf_rf G o 1), .int (nI i1)] S rfl ⟨by decide, by decide, rfl⟩ ⟨trivial, ⟨by first | assumption | rfl | decide | omega, by first | assumption | rfl | decide | omega⟩⟩ ?_
      refine tf_go hx ftX11_sign 1 [false] 9 [some (.ref o), some (.int (nI t)), some (.int (nI i1))] [.ref (tf_rf G o 1), .int (nI i1)] S rfl ⟨by decide, by decide, rfl⟩ ⟨trivial, (tf_eqF (a := t) (b := 0) rfl (rfl : (0 : Int32) = nI 0) (by omega) (by omega) (by omega))⟩ ?_
      refine tf_go hx ftX11_sign 3 [] 19 [some (.ref o), some (.int (nI t)), some (.int (nI i1))] [.int (S (tf_rf G o 1) (Int32.toNatClampNeg 364)), .int (nI i1)] S rfl ⟨by decide, by decide, rfl⟩ ⟨trivial, ⟨Or.inl (by first | assumption | rfl | decide | omega), by first | assumption | exact tf_in (n := 364) (rfl : (364 : Int32) = nI 364) (by first | assumption | rfl) (by omega) (by decide)⟩⟩ ?_
      rw [show (S (tf_rf G o 1) (Int32.toNatClampNeg 364)) = nI (A.1 364) from (tf_rd hs (rfl : (364 : Int32) = nI 364) (by omega))]
      refine tf_cS hx ftX11_sign (nx := 22) (As := [.int (nI i1), .int (nI (A.1 364))]) (rest := []) (st2 := [.int (if ¬ (nI i1) < 0 ∧ ¬ nI (A.1 364) ≤ (nI i1) then 1 else 0)]) (m_isIn (nI i1) (nI (A.1 364))) rfl lX11_22 rfl ⟨rfl, by decide, by decide, by decide, rfl, rfl⟩ ?_
      rw [if_pos c1]
      refine tf_go hx ftX11_sign 1 [false] 25 [some (.ref o), some (.int (nI t)), some (.int (nI i1))] [] S rfl ⟨by decide, by decide, rfl⟩ ⟨trivial, (by decide)⟩ ?_
      refine tf_go hx ftX11_sign 3 [] 30 [some (.ref o), some (.int (nI t)), some (.int (nI i1))] [.int (nI t), .ref (tf_rf G o 1)] S rfl ⟨by decide, by decide, rfl⟩ ⟨trivial, ⟨by first | assumption | rfl | decide | omega, by first | assumption | rfl | decide | omega⟩⟩ ?_
      refine tf_go hx ftX11_sign 1 [false] 33 [some (.ref o), some (.int (nI t)), some (.int (nI i1))] [.ref (tf_rf G o 1)] S rfl ⟨by decide, by decide, rfl⟩ ⟨trivial, (tf_eqF (a := t) (b := 0) rfl (rfl : (0 : Int32) = nI 0) (by omega) (by omega) (by omega))⟩ ?_
      refine tf_go hx ftX11_sign 6 [] 50 [some (.ref o), some (.int (nI t)), some (.int (nI i1))] [.int (S (tf_rf G o 1) (Int32.toNatClampNeg (144 + (nI i1))))] S rfl ⟨by decide, by decide, rfl⟩ ⟨trivial, ⟨Or.inl (by first | assumption | rfl | decide | omega), by first | assumption | exact tf_in (n := (144 + i1)) (tf_add (a := 144) (b := i1) (rfl : (144 : Int32) = nI 144) rfl) (by first | assumption | rfl) (by omega) (by decide)⟩⟩ ?_
      rw [show (S (tf_rf G o 1) (Int32.toNatClampNeg (144 + (nI i1)))) = nI (A.1 (144 + i1)) from (tf_rd hs (tf_add (a := 144) (b := i1) (rfl : (144 : Int32) = nI 144) rfl) (by omega))]
      exact tf_ret ftX11_sign hR rfl ⟨by decide, by decide⟩ rfl rfl rfl
    · rw [if_neg c1]
      refine ⟨S, tf_Fn_of (own := RX11) false ⟨by decide, rfl, by decide⟩ (Nat.le_of_ble_eq_true rfl) trivial (fun x hx hR => ?_), hM, tf_fm_id⟩
      show tf_K x 0 0 G S 0 [some (.ref o), some (.int (nI t)), some (.int i)] []
      refine tf_go hx ftX11_sign 4 [] 6 [some (.ref o), some (.int (nI t)), some (.int i)] [.int (nI t), .ref (tf_rf G o 1), .int i] S rfl ⟨by decide, by decide, rfl⟩ ⟨trivial, ⟨by first | assumption | rfl | decide | omega, by first | assumption | rfl | decide | omega⟩⟩ ?_
      refine tf_go hx ftX11_sign 1 [false] 9 [some (.ref o), some (.int (nI t)), some (.int i)] [.ref (tf_rf G o 1), .int i] S rfl ⟨by decide, by decide, rfl⟩ ⟨trivial, (tf_eqF (a := t) (b := 0) rfl (rfl : (0 : Int32) = nI 0) (by omega) (by omega) (by omega))⟩ ?_
      refine tf_go hx ftX11_sign 3 [] 19 [some (.ref o), some (.int (nI t)), some (.int i)] [.int (S (tf_rf G o 1) (Int32.toNatClampNeg 364)), .int i] S rfl ⟨by decide, by decide, rfl⟩ ⟨trivial, ⟨Or.inl (by first | assumption | rfl | decide | omega), by first | assumption | exact tf_in (n := 364) (rfl : (364 : Int32) = nI 364) (by first | assumption | rfl) (by omega) (by decide)⟩⟩ ?_
      rw [show (S (tf_rf G o 1) (Int32.toNatClampNeg 364)) = nI (A.1 364) from (tf_rd hs (rfl : (364 : Int32) = nI 364) (by omega))]
      refine tf_cS hx ftX11_sign (nx := 22) (As := [.int i, .int (nI (A.1 364))]) (rest := []) (st2 := [.int (if ¬ i < 0 ∧ ¬ nI (A.1 364) ≤ i then 1 else 0)]) (m_isIn i (nI (A.1 364))) rfl lX11_22 rfl ⟨rfl, by decide, by decide, by decide, rfl, rfl⟩ ?_
      rw [if_neg c1]
      refine tf_go hx ftX11_sign 2 [true] 50 [some (.ref o), some (.int (nI t)), some (.int i)] [.int (-9)] S rfl ⟨by decide, by decide, rfl⟩ ⟨trivial, (by decide)⟩ ?_
      exact tf_ret ftX11_sign hR rfl ⟨by decide, by decide⟩ rfl rfl rfl

set_option maxHeartbeats 2000000 in
theorem p_practise {G : tf_G} {S : tf_Sg} {o : Nat} {A : tf_A} (w n : Int32) (ho : tf_mo G o) (hd : tf_md G o) (hA : tf_okA A) (hM : tf_ms G S o A)  : tf_pm mX11_practise 2 G S o [.ref o, .int w, .int n] (s_practise A w n) := by
  obtain ⟨h1, ⟨r0, t0, n0⟩, ⟨r1, t1, n1⟩, ⟨r2, t2, n2⟩, ⟨r4, t4, n4⟩⟩ := id ho
  obtain ⟨hg, hb, hA3, hA4, hA5, hA6⟩ := id hA
  have hs := hM.1
  have hf : tf_sf G S o A.1 := ⟨hM.1, hb⟩
  obtain ⟨⟨g1, g2, g3, g4⟩, g5, g6, g7, g8, g9, g10, g11⟩ := id hg
  unfold s_practise
  by_cases c1 : ¬ w < 0 ∧ ¬ nI (A.1 366) ≤ w
  · rw [if_pos c1]
    by_cases e1 : ¬ 1 ≤ n
    · rw [if_pos e1]
      refine ⟨tf_rfS G S o 4, tf_Fn_of (own := RX11) false ⟨by decide, rfl, by decide⟩ (Nat.le_of_ble_eq_true rfl) trivial (fun x hx hR => ?_), tf_ms_ref ho hd hM 4, tf_fm_0⟩
      show tf_K x 0 0 G S 0 [some (.ref o), some (.int w), some (.int n), none, none] []
      refine tf_go hx ftX11_practise 5 [] 9 [some (.ref o), some (.int w), some (.int n), none, none] [.int (S (tf_rf G o 1) (Int32.toNatClampNeg 366)), .int w] S rfl ⟨by decide, by decide, rfl⟩ ⟨⟨trivial, ⟨by first | assumption | rfl | decide | omega, by first | assumption | rfl | decide | omega⟩⟩, ⟨Or.inl (by first | assumption | rfl | decide | omega), by first | assumption | exact tf_in (n := 366) (rfl : (366 : Int32) = nI 366) (by first | assumption | rfl) (by omega) (by decide)⟩⟩ ?_
      rw [show (S (tf_rf G o 1) (Int32.toNatClampNeg 366)) = nI (A.1 366) from (tf_rd hs (rfl : (366 : Int32) = nI 366) (by omega))]
      refine tf_cS hx ftX11_practise (nx := 12) (As := [.int w, .int (nI (A.1 366))]) (rest := []) (st2 := [.int (if ¬ w < 0 ∧ ¬ nI (A.1 366) ≤ w then 1 else 0)]) (m_isIn w (nI (A.1 366))) rfl lX11_22 rfl ⟨rfl, by decide, by decide, by decide, rfl, rfl⟩ ?_
      rw [if_pos c1]
      refine tf_go hx ftX11_practise 1 [false] 15 [some (.ref o), some (.int w), some (.int n), none, none] [] S rfl ⟨by decide, by decide, rfl⟩ ⟨trivial, (by decide)⟩ ?_
      refine tf_go hx ftX11_practise 3 [] 20 [some (.ref o), some (.int w), some (.int n), none, none] [.int 999, .int 1, .int n] S rfl ⟨by decide, by decide, rfl⟩ trivial ?_
      refine tf_cS hx ftX11_practise (nx := 23) (As := [.int n, .int 1, .int 999]) (rest := []) (st2 := [.int (if ¬ 1 ≤ n then (-4) else if ¬ n ≤ 999 then (-6) else 0)]) (m_within n 1 999) rfl lX11_65 rfl ⟨rfl, by decide, by decide, by decide, rfl, rfl⟩ ?_
      rw [if_pos e1]
      refine tf_go hx ftX11_practise 3 [] 29 [some (.ref o), some (.int w), some (.int n), some (.int (-4)), none] [.int (-4)] S rfl ⟨by decide, by decide, rfl⟩ trivial ?_
      refine tf_go hx ftX11_practise 3 [false] 34 [some (.ref o), some (.int w), some (.int n), some (.int (-4)), none] [.int (-4), .ref o] S rfl ⟨by decide, by decide, rfl⟩ ⟨trivial, (by decide)⟩ ?_
      refine tf_cV hx ftX11_practise (nx := 37) (As := [.int (-4)]) (rest := []) (st2 := [.int (-4)]) (m_ref4 ho) rfl lX11_26 (by first | assumption | rfl | decide) rfl ⟨rfl, by decide, by decide, by decide, rfl, rfl⟩ ?_
      exact tf_ret ftX11_practise hR rfl ⟨by decide, by decide⟩ rfl rfl rfl
    · by_cases e2 : ¬ n ≤ 999
      · rw [if_neg e1, if_pos e2]
        refine ⟨tf_rfS G S o 6, tf_Fn_of (own := RX11) false ⟨by decide, rfl, by decide⟩ (Nat.le_of_ble_eq_true rfl) trivial (fun x hx hR => ?_), tf_ms_ref ho hd hM 6, tf_fm_0⟩
        show tf_K x 0 0 G S 0 [some (.ref o), some (.int w), some (.int n), none, none] []
        refine tf_go hx ftX11_practise 5 [] 9 [some (.ref o), some (.int w), some (.int n), none, none] [.int (S (tf_rf G o 1) (Int32.toNatClampNeg 366)), .int w] S rfl ⟨by decide, by decide, rfl⟩ ⟨⟨trivial, ⟨by first | assumption | rfl | decide | omega, by first | assumption | rfl | decide | omega⟩⟩, ⟨Or.inl (by first | assumption | rfl | decide | omega), by first | assumption | exact tf_in (n := 366) (rfl : (366 : Int32) = nI 366) (by first | assumption | rfl) (by omega) (by decide)⟩⟩ ?_
        rw [show (S (tf_rf G o 1) (Int32.toNatClampNeg 366)) = nI (A.1 366) from (tf_rd hs (rfl : (366 : Int32) = nI 366) (by omega))]
        refine tf_cS hx ftX11_practise (nx := 12) (As := [.int w, .int (nI (A.1 366))]) (rest := []) (st2 := [.int (if ¬ w < 0 ∧ ¬ nI (A.1 366) ≤ w then 1 else 0)]) (m_isIn w (nI (A.1 366))) rfl lX11_22 rfl ⟨rfl, by decide, by decide, by decide, rfl, rfl⟩ ?_
        rw [if_pos c1]
        refine tf_go hx ftX11_practise 1 [false] 15 [some (.ref o), some (.int w), some (.int n), none, none] [] S rfl ⟨by decide, by decide, rfl⟩ ⟨trivial, (by decide)⟩ ?_
        refine tf_go hx ftX11_practise 3 [] 20 [some (.ref o), some (.int w), some (.int n), none, none] [.int 999, .int 1, .int n] S rfl ⟨by decide, by decide, rfl⟩ trivial ?_
        refine tf_cS hx ftX11_practise (nx := 23) (As := [.int n, .int 1, .int 999]) (rest := []) (st2 := [.int (if ¬ 1 ≤ n then (-4) else if ¬ n ≤ 999 then (-6) else 0)]) (m_within n 1 999) rfl lX11_65 rfl ⟨rfl, by decide, by decide, by decide, rfl, rfl⟩ ?_
        rw [if_neg e1, if_pos e2]
        refine tf_go hx ftX11_practise 3 [] 29 [some (.ref o), some (.int w), some (.int n), some (.int (-6)), none] [.int (-6)] S rfl ⟨by decide, by decide, rfl⟩ trivial ?_
        refine tf_go hx ftX11_practise 3 [false] 34 [some (.ref o), some (.int w), some (.int n), some (.int (-6)), none] [.int (-6), .ref o] S rfl ⟨by decide, by decide, rfl⟩ ⟨trivial, (by decide)⟩ ?_
        refine tf_cV hx ftX11_practise (nx := 37) (As := [.int (-6)]) (rest := []) (st2 := [.int (-6)]) (m_ref6 ho) rfl lX11_26 (by first | assumption | rfl | decide) rfl ⟨rfl, by decide, by decide, by decide, rfl, rfl⟩ ?_
        exact tf_ret ftX11_practise hR rfl ⟨by decide, by decide⟩ rfl rfl rfl
      · rw [if_neg e1, if_neg e2]
        obtain ⟨w1, w1_lt, w1_eq, w1_cl⟩ := tf_ok_nI (N := A.1 366) (show tf_ok w _ from c1) rfl (by omega)
        try rw [w1_cl]
        obtain ⟨n1, n1_le, n1_eq⟩ := nI_of2 (M := 999) (n := 999) (x := n) (by decide) (fun h => e1 (fun h2 => absurd (Int32.lt_of_lt_of_le h (by decide)) (Int32.not_lt.mpr h2))) (Classical.not_not.mp e2)
        have n1_cl : n.toNatClampNeg = n1 := by rw [n1_eq]; exact tf_cl_nI (by omega)
        rw [n1_cl]
        subst w1_eq
        subst n1_eq
        by_cases e3 : A.1 (224 + 10 * w1 + 1) + n1 ≤ 9999
        · rw [if_pos e3]
          refine ⟨(tf_rw S (tf_rf G o 1) (tf_u A.1 (224 + 10 * w1 + 1) (A.1 (224 + 10 * w1 + 1) + n1))), tf_Fn_of (own := RX11) false ⟨by decide, rfl, by decide⟩ (Nat.le_of_ble_eq_true rfl) trivial (fun x hx hR => ?_), tf_ms_rw ho hd hM _, tf_fm_1⟩
          show tf_K x 0 0 G S 0 [some (.ref o), some (.int (nI w1)), some (.int (nI n1)), none, none] []
          refine tf_go hx ftX11_practise 5 [] 9 [some (.ref o), some (.int (nI w1)), some (.int (nI n1)), none, none] [.int (S (tf_rf G o 1) (Int32.toNatClampNeg 366)), .int (nI w1)] S rfl ⟨by decide, by decide, rfl⟩ ⟨⟨trivial, ⟨by first | assumption | rfl | decide | omega, by first | assumption | rfl | decide | omega⟩⟩, ⟨Or.inl (by first | assumption | rfl | decide | omega), by first | assumption | exact tf_in (n := 366) (rfl : (366 : Int32) = nI 366) (by first | assumption | rfl) (by omega) (by decide)⟩⟩ ?_
          rw [show (S (tf_rf G o 1) (Int32.toNatClampNeg 366)) = nI (A.1 366) from (tf_rd hs (rfl : (366 : Int32) = nI 366) (by omega))]
          refine tf_cS hx ftX11_practise (nx := 12) (As := [.int (nI w1), .int (nI (A.1 366))]) (rest := []) (st2 := [.int (if ¬ (nI w1) < 0 ∧ ¬ nI (A.1 366) ≤ (nI w1) then 1 else 0)]) (m_isIn (nI w1) (nI (A.1 366))) rfl lX11_22 rfl ⟨rfl, by decide, by decide, by decide, rfl, rfl⟩ ?_
          rw [if_pos c1]
          refine tf_go hx ftX11_practise 1 [false] 15 [some (.ref o), some (.int (nI w1)), some (.int (nI n1)), none, none] [] S rfl ⟨by decide, by decide, rfl⟩ ⟨trivial, (by decide)⟩ ?_
          refine tf_go hx ftX11_practise 3 [] 20 [some (.ref o), some (.int (nI w1)), some (.int (nI n1)), none, none] [.int 999, .int 1, .int (nI n1)] S rfl ⟨by decide, by decide, rfl⟩ trivial ?_
          refine tf_cS hx ftX11_practise (nx := 23) (As := [.int (nI n1), .int 1, .int 999]) (rest := []) (st2 := [.int (if ¬ 1 ≤ (nI n1) then (-4) else if ¬ (nI n1) ≤ 999 then (-6) else 0)]) (m_within (nI n1) 1 999) rfl lX11_65 rfl ⟨rfl, by decide, by decide, by decide, rfl, rfl⟩ ?_
          rw [if_neg e1, if_neg e2]
          refine tf_go hx ftX11_practise 3 [] 29 [some (.ref o), some (.int (nI w1)), some (.int (nI n1)), some (.int 0), none] [.int 0] S rfl ⟨by decide, by decide, rfl⟩ trivial ?_
          refine tf_go hx ftX11_practise 1 [true] 38 [some (.ref o), some (.int (nI w1)), some (.int (nI n1)), some (.int 0), none] [] S rfl ⟨by decide, by decide, rfl⟩ ⟨trivial, (by decide)⟩ ?_
          refine tf_go hx ftX11_practise 18 [] 68 [some (.ref o), some (.int (nI w1)), some (.int (nI n1)), some (.int 0), some (.int ((224 + (10 * (nI w1))) + 1))] [.int 9999, .int ((S (tf_rf G o 1) (Int32.toNatClampNeg ((224 + (10 * (nI w1))) + 1))) + (nI n1)), .int ((224 + (10 * (nI w1))) + 1), .ref (tf_rf G o 1)] S rfl ⟨by decide, by decide, rfl⟩ ⟨⟨⟨trivial, ⟨by first | assumption | rfl | decide | omega, by first | assumption | rfl | decide | omega⟩⟩, ⟨by first | assumption | rfl | decide | omega, by first | assumption | rfl | decide | omega⟩⟩, ⟨Or.inl (by first | assumption | rfl | decide | omega), by first | assumption | exact tf_in (n := ((224 + (10 * w1)) + 1)) (tf_add (a := (224 + (10 * w1))) (b := 1) (tf_add (a := 224) (b := (10 * w1)) (rfl : (224 : Int32) = nI 224) (tf_mul (a := 10) (b := w1) (rfl : (10 : Int32) = nI 10) rfl)) (rfl : (1 : Int32) = nI 1)) (by first | assumption | rfl) (by omega) (by decide)⟩⟩ ?_
          rw [show ((S (tf_rf G o 1) (Int32.toNatClampNeg ((224 + (10 * (nI w1))) + 1))) + (nI n1)) = nI ((A.1 ((224 + (10 * w1)) + 1)) + n1) from (tf_add (a := (A.1 ((224 + (10 * w1)) + 1))) (b := n1) (tf_rd hs (tf_add (a := (224 + (10 * w1))) (b := 1) (tf_add (a := 224) (b := (10 * w1)) (rfl : (224 : Int32) = nI 224) (tf_mul (a := 10) (b := w1) (rfl : (10 : Int32) = nI 10) rfl)) (rfl : (1 : Int32) = nI 1)) (by omega)) rfl)]
          rw [show ((224 + (10 * (nI w1))) + 1) = nI ((224 + (10 * w1)) + 1) from (tf_add (a := (224 + (10 * w1))) (b := 1) (tf_add (a := 224) (b := (10 * w1)) (rfl : (224 : Int32) = nI 224) (tf_mul (a := 10) (b := w1) (rfl : (10 : Int32) = nI 10) rfl)) (rfl : (1 : Int32) = nI 1))]
          refine tf_go hx ftX11_practise 1 [true] 77 [some (.ref o), some (.int (nI w1)), some (.int (nI n1)), some (.int 0), some (.int (nI ((224 + (10 * w1)) + 1)))] [.int (nI ((224 + (10 * w1)) + 1)), .ref (tf_rf G o 1)] S rfl ⟨by decide, by decide, rfl⟩ ⟨trivial, (tf_leT (a := ((A.1 ((224 + (10 * w1)) + 1)) + n1)) (b := 9999) rfl (rfl : (9999 : Int32) = nI 9999) (by have := hb ((224 + (10 * w1)) + 1); omega) (by have := hb ((224 + (10 * w1)) + 1); omega) (by have := hb ((224 + (10 * w1)) + 1); omega))⟩ ?_
          refine tf_go hx ftX11_practise 6 [] 86 [some (.ref o), some (.int (nI w1)), some (.int (nI n1)), some (.int 0), some (.int (nI ((224 + (10 * w1)) + 1)))] [.int ((S (tf_rf G o 1) (Int32.toNatClampNeg (nI ((224 + (10 * w1)) + 1)))) + (nI n1)), .int (nI ((224 + (10 * w1)) + 1)), .ref (tf_rf G o 1)] S rfl ⟨by decide, by decide, rfl⟩ ⟨⟨trivial, ⟨by first | assumption | rfl | decide | omega, by first | assumption | rfl | decide | omega⟩⟩, ⟨Or.inl (by first | assumption | rfl | decide | omega), by first | assumption | exact tf_in (n := ((224 + (10 * w1)) + 1)) rfl (by first | assumption | rfl) (by omega) (by decide)⟩⟩ ?_
          rw [show ((S (tf_rf G o 1) (Int32.toNatClampNeg (nI ((224 + (10 * w1)) + 1)))) + (nI n1)) = nI ((A.1 ((224 + (10 * w1)) + 1)) + n1) from (tf_add (a := (A.1 ((224 + (10 * w1)) + 1))) (b := n1) (tf_rd hs rfl (by omega)) rfl)]
          refine tf_go hx ftX11_practise 1 [] 87 [some (.ref o), some (.int (nI w1)), some (.int (nI n1)), some (.int 0), some (.int (nI ((224 + (10 * w1)) + 1)))] [] (tf_set S (tf_rf G o 1) (Int32.toNatClampNeg (nI ((224 + (10 * w1)) + 1))) (nI ((A.1 ((224 + (10 * w1)) + 1)) + n1))) rfl ⟨by decide, by decide, rfl⟩ ⟨trivial, ⟨by first | assumption | rfl | decide | omega, by first | assumption | exact tf_in (n := ((224 + (10 * w1)) + 1)) rfl (by first | assumption | rfl) (by omega) (by decide)⟩⟩ ?_
          rw [show Int32.toNatClampNeg (nI ((224 + (10 * w1)) + 1)) = ((224 + (10 * w1)) + 1) from tf_cln rfl (by omega)]
          rw [tf_rw_u hs]
          have rr : ∀ k, (tf_rw S (tf_rf G o 1) (tf_u A.1 (224 + 10 * w1 + 1) (A.1 (224 + 10 * w1 + 1) + n1))) (tf_rf G o 1) k = nI (tf_u A.1 (224 + 10 * w1 + 1) (A.1 (224 + 10 * w1 + 1) + n1) k) := tf_rw_a
          refine tf_go hx ftX11_practise 4 [] 94 [some (.ref o), some (.int (nI w1)), some (.int (nI n1)), some (.int 0), some (.int (nI ((224 + (10 * w1)) + 1)))] [.int ((tf_rw S (tf_rf G o 1) (tf_u A.1 (224 + 10 * w1 + 1) (A.1 (224 + 10 * w1 + 1) + n1))) (tf_rf G o 1) (Int32.toNatClampNeg (nI ((224 + (10 * w1)) + 1))))] (tf_rw S (tf_rf G o 1) (tf_u A.1 (224 + 10 * w1 + 1) (A.1 (224 + 10 * w1 + 1) + n1))) rfl ⟨by decide, by decide, rfl⟩ ⟨⟨trivial, ⟨by first | assumption | rfl | decide | omega, by first | assumption | rfl | decide | omega⟩⟩, ⟨Or.inl (by first | assumption | rfl | decide | omega), by first | assumption | exact tf_in (n := ((224 + (10 * w1)) + 1)) rfl (by first | assumption | rfl) (by omega) (by decide)⟩⟩ ?_
          rw [show ((tf_rw S (tf_rf G o 1) (tf_u A.1 (224 + 10 * w1 + 1) (A.1 (224 + 10 * w1 + 1) + n1))) (tf_rf G o 1) (Int32.toNatClampNeg (nI ((224 + (10 * w1)) + 1)))) = nI ((tf_u A.1 (224 + 10 * w1 + 1) (A.1 (224 + 10 * w1 + 1) + n1)) ((224 + (10 * w1)) + 1)) from (tf_rd rr rfl (by omega))]
          exact tf_ret ftX11_practise hR rfl ⟨by decide, by decide⟩ rfl rfl (by unfold tf_u; rw [if_pos rfl]; rfl)
        · rw [if_neg e3]
          refine ⟨(tf_rw S (tf_rf G o 1) (tf_u A.1 (224 + 10 * w1 + 1) 9999)), tf_Fn_of (own := RX11) false ⟨by decide, rfl, by decide⟩ (Nat.le_of_ble_eq_true rfl) trivial (fun x hx hR => ?_), tf_ms_rw ho hd hM _, tf_fm_1⟩
          show tf_K x 0 0 G S 0 [some (.ref o), some (.int (nI w1)), some (.int (nI n1)), none, none] []
          refine tf_go hx ftX11_practise 5 [] 9 [some (.ref o), some (.int (nI w1)), some (.int (nI n1)), none, none] [.int (S (tf_rf G o 1) (Int32.toNatClampNeg 366)), .int (nI w1)] S rfl ⟨by decide, by decide, rfl⟩ ⟨⟨trivial, ⟨by first | assumption | rfl | decide | omega, by first | assumption | rfl | decide | omega⟩⟩, ⟨Or.inl (by first | assumption | rfl | decide | omega), by first | assumption | exact tf_in (n := 366) (rfl : (366 : Int32) = nI 366) (by first | assumption | rfl) (by omega) (by decide)⟩⟩ ?_
          rw [show (S (tf_rf G o 1) (Int32.toNatClampNeg 366)) = nI (A.1 366) from (tf_rd hs (rfl : (366 : Int32) = nI 366) (by omega))]
          refine tf_cS hx ftX11_practise (nx := 12) (As := [.int (nI w1), .int (nI (A.1 366))]) (rest := []) (st2 := [.int (if ¬ (nI w1) < 0 ∧ ¬ nI (A.1 366) ≤ (nI w1) then 1 else 0)]) (m_isIn (nI w1) (nI (A.1 366))) rfl lX11_22 rfl ⟨rfl, by decide, by decide, by decide, rfl, rfl⟩ ?_
          rw [if_pos c1]
          refine tf_go hx ftX11_practise 1 [false] 15 [some (.ref o), some (.int (nI w1)), some (.int (nI n1)), none, none] [] S rfl ⟨by decide, by decide, rfl⟩ ⟨trivial, (by decide)⟩ ?_
          refine tf_go hx ftX11_practise 3 [] 20 [some (.ref o), some (.int (nI w1)), some (.int (nI n1)), none, none] [.int 999, .int 1, .int (nI n1)] S rfl ⟨by decide, by decide, rfl⟩ trivial ?_
          refine tf_cS hx ftX11_practise (nx := 23) (As := [.int (nI n1), .int 1, .int 999]) (rest := []) (st2 := [.int (if ¬ 1 ≤ (nI n1) then (-4) else if ¬ (nI n1) ≤ 999 then (-6) else 0)]) (m_within (nI n1) 1 999) rfl lX11_65 rfl ⟨rfl, by decide, by decide, by decide, rfl, rfl⟩ ?_
          rw [if_neg e1, if_neg e2]
          refine tf_go hx ftX11_practise 3 [] 29 [some (.ref o), some (.int (nI w1)), some (.int (nI n1)), some (.int 0), none] [.int 0] S rfl ⟨by decide, by decide, rfl⟩ trivial ?_
          refine tf_go hx ftX11_practise 1 [true] 38 [some (.ref o), some (.int (nI w1)), some (.int (nI n1)), some (.int 0), none] [] S rfl ⟨by decide, by decide, rfl⟩ ⟨trivial, (by decide)⟩ ?_
          refine tf_go hx ftX11_practise 18 [] 68 [some (.ref o), some (.int (nI w1)), some (.int (nI n1)), some (.int 0), some (.int ((224 + (10 * (nI w1))) + 1))] [.int 9999, .int ((S (tf_rf G o 1) (Int32.toNatClampNeg ((224 + (10 * (nI w1))) + 1))) + (nI n1)), .int ((224 + (10 * (nI w1))) + 1), .ref (tf_rf G o 1)] S rfl ⟨by decide, by decide, rfl⟩ ⟨⟨⟨trivial, ⟨by first | assumption | rfl | decide | omega, by first | assumption | rfl | decide | omega⟩⟩, ⟨by first | assumption | rfl | decide | omega, by first | assumption | rfl | decide | omega⟩⟩, ⟨Or.inl (by first | assumption | rfl | decide | omega), by first | assumption | exact tf_in (n := ((224 + (10 * w1)) + 1)) (tf_add (a := (224 + (10 * w1))) (b := 1) (tf_add (a := 224) (b := (10 * w1)) (rfl : (224 : Int32) = nI 224) (tf_mul (a := 10) (b := w1) (rfl : (10 : Int32) = nI 10) rfl)) (rfl : (1 : Int32) = nI 1)) (by first | assumption | rfl) (by omega) (by decide)⟩⟩ ?_
          rw [show ((S (tf_rf G o 1) (Int32.toNatClampNeg ((224 + (10 * (nI w1))) + 1))) + (nI n1)) = nI ((A.1 ((224 + (10 * w1)) + 1)) + n1) from (tf_add (a := (A.1 ((224 + (10 * w1)) + 1))) (b := n1) (tf_rd hs (tf_add (a := (224 + (10 * w1))) (b := 1) (tf_add (a := 224) (b := (10 * w1)) (rfl : (224 : Int32) = nI 224) (tf_mul (a := 10) (b := w1) (rfl : (10 : Int32) = nI 10) rfl)) (rfl : (1 : Int32) = nI 1)) (by omega)) rfl)]
          rw [show ((224 + (10 * (nI w1))) + 1) = nI ((224 + (10 * w1)) + 1) from (tf_add (a := (224 + (10 * w1))) (b := 1) (tf_add (a := 224) (b := (10 * w1)) (rfl : (224 : Int32) = nI 224) (tf_mul (a := 10) (b := w1) (rfl : (10 : Int32) = nI 10) rfl)) (rfl : (1 : Int32) = nI 1))]
          refine tf_go hx ftX11_practise 1 [false] 71 [some (.ref o), some (.int (nI w1)), some (.int (nI n1)), some (.int 0), some (.int (nI ((224 + (10 * w1)) + 1)))] [.int (nI ((224 + (10 * w1)) + 1)), .ref (tf_rf G o 1)] S rfl ⟨by decide, by decide, rfl⟩ ⟨trivial, (tf_leF (a := ((A.1 ((224 + (10 * w1)) + 1)) + n1)) (b := 9999) rfl (rfl : (9999 : Int32) = nI 9999) (by have := hb ((224 + (10 * w1)) + 1); omega) (by have := hb ((224 + (10 * w1)) + 1); omega) (by have := hb ((224 + (10 * w1)) + 1); omega))⟩ ?_
          refine tf_go hx ftX11_practise 2 [] 86 [some (.ref o), some (.int (nI w1)), some (.int (nI n1)), some (.int 0), some (.int (nI ((224 + (10 * w1)) + 1)))] [.int 9999, .int (nI ((224 + (10 * w1)) + 1)), .ref (tf_rf G o 1)] S rfl ⟨by decide, by decide, rfl⟩ trivial ?_
          refine tf_go hx ftX11_practise 1 [] 87 [some (.ref o), some (.int (nI w1)), some (.int (nI n1)), some (.int 0), some (.int (nI ((224 + (10 * w1)) + 1)))] [] (tf_set S (tf_rf G o 1) (Int32.toNatClampNeg (nI ((224 + (10 * w1)) + 1))) 9999) rfl ⟨by decide, by decide, rfl⟩ ⟨trivial, ⟨by first | assumption | rfl | decide | omega, by first | assumption | exact tf_in (n := ((224 + (10 * w1)) + 1)) rfl (by first | assumption | rfl) (by omega) (by decide)⟩⟩ ?_
          rw [show Int32.toNatClampNeg (nI ((224 + (10 * w1)) + 1)) = ((224 + (10 * w1)) + 1) from tf_cln rfl (by omega)]
          rw [show (9999 : Int32) = nI 9999 from rfl, tf_rw_u hs]
          have rr : ∀ k, (tf_rw S (tf_rf G o 1) (tf_u A.1 (224 + 10 * w1 + 1) 9999)) (tf_rf G o 1) k = nI (tf_u A.1 (224 + 10 * w1 + 1) 9999 k) := tf_rw_a
          refine tf_go hx ftX11_practise 4 [] 94 [some (.ref o), some (.int (nI w1)), some (.int (nI n1)), some (.int 0), some (.int (nI ((224 + (10 * w1)) + 1)))] [.int ((tf_rw S (tf_rf G o 1) (tf_u A.1 (224 + 10 * w1 + 1) 9999)) (tf_rf G o 1) (Int32.toNatClampNeg (nI ((224 + (10 * w1)) + 1))))] (tf_rw S (tf_rf G o 1) (tf_u A.1 (224 + 10 * w1 + 1) 9999)) rfl ⟨by decide, by decide, rfl⟩ ⟨⟨trivial, ⟨by first | assumption | rfl | decide | omega, by first | assumption | rfl | decide | omega⟩⟩, ⟨Or.inl (by first | assumption | rfl | decide | omega), by first | assumption | exact tf_in (n := ((224 + (10 * w1)) + 1)) rfl (by first | assumption | rfl) (by omega) (by decide)⟩⟩ ?_
          rw [show ((tf_rw S (tf_rf G o 1) (tf_u A.1 (224 + 10 * w1 + 1) 9999)) (tf_rf G o 1) (Int32.toNatClampNeg (nI ((224 + (10 * w1)) + 1)))) = nI ((tf_u A.1 (224 + 10 * w1 + 1) 9999) ((224 + (10 * w1)) + 1)) from (tf_rd rr rfl (by omega))]
          exact tf_ret ftX11_practise hR rfl ⟨by decide, by decide⟩ rfl rfl (by unfold tf_u; rw [if_pos rfl]; rfl)
  · rw [if_neg c1]
    refine ⟨tf_rfS G S o 1, tf_Fn_of (own := RX11) false ⟨by decide, rfl, by decide⟩ (Nat.le_of_ble_eq_true rfl) trivial (fun x hx hR => ?_), tf_ms_ref ho hd hM 1, tf_fm_0⟩
    show tf_K x 0 0 G S 0 [some (.ref o), some (.int w), some (.int n), none, none] []
    refine tf_go hx ftX11_practise 5 [] 9 [some (.ref o), some (.int w), some (.int n), none, none] [.int (S (tf_rf G o 1) (Int32.toNatClampNeg 366)), .int w] S rfl ⟨by decide, by decide, rfl⟩ ⟨⟨trivial, ⟨by first | assumption | rfl | decide | omega, by first | assumption | rfl | decide | omega⟩⟩, ⟨Or.inl (by first | assumption | rfl | decide | omega), by first | assumption | exact tf_in (n := 366) (rfl : (366 : Int32) = nI 366) (by first | assumption | rfl) (by omega) (by decide)⟩⟩ ?_
    rw [show (S (tf_rf G o 1) (Int32.toNatClampNeg 366)) = nI (A.1 366) from (tf_rd hs (rfl : (366 : Int32) = nI 366) (by omega))]
    refine tf_cS hx ftX11_practise (nx := 12) (As := [.int w, .int (nI (A.1 366))]) (rest := []) (st2 := [.int (if ¬ w < 0 ∧ ¬ nI (A.1 366) ≤ w then 1 else 0)]) (m_isIn w (nI (A.1 366))) rfl lX11_22 rfl ⟨rfl, by decide, by decide, by decide, rfl, rfl⟩ ?_
    rw [if_neg c1]
    refine tf_go hx ftX11_practise 1 [true] 26 [some (.ref o), some (.int w), some (.int n), none, none] [] S rfl ⟨by decide, by decide, rfl⟩ ⟨trivial, (by decide)⟩ ?_
    refine tf_go hx ftX11_practise 3 [] 29 [some (.ref o), some (.int w), some (.int n), some (.int (-1)), none] [.int (-1)] S rfl ⟨by decide, by decide, rfl⟩ trivial ?_
    refine tf_go hx ftX11_practise 3 [false] 34 [some (.ref o), some (.int w), some (.int n), some (.int (-1)), none] [.int (-1), .ref o] S rfl ⟨by decide, by decide, rfl⟩ ⟨trivial, (by decide)⟩ ?_
    refine tf_cV hx ftX11_practise (nx := 37) (As := [.int (-1)]) (rest := []) (st2 := [.int (-1)]) (m_ref1 ho) rfl lX11_26 (by first | assumption | rfl | decide) rfl ⟨rfl, by decide, by decide, by decide, rfl, rfl⟩ ?_
    exact tf_ret ftX11_practise hR rfl ⟨by decide, by decide⟩ rfl rfl rfl

set_option maxHeartbeats 2000000 in
theorem p_put {G : tf_G} {S : tf_Sg} {o : Nat} {A : tf_A} (v : Int32) (ho : tf_mo G o) (hd : tf_md G o) (hA : tf_okA A) (hM : tf_ms G S o A)  : tf_pm mX11_put 2 G S o [.ref o, .int v] (s_put A v) := by
  obtain ⟨h1, ⟨r0, t0, n0⟩, ⟨r1, t1, n1⟩, ⟨r2, t2, n2⟩, ⟨r4, t4, n4⟩⟩ := id ho
  obtain ⟨hg, hb, hA3, hA4, hA5, hA6⟩ := id hA
  have hs := hM.1
  have hf : tf_sf G S o A.1 := ⟨hM.1, hb⟩
  obtain ⟨⟨g1, g2, g3, g4⟩, g5, g6, g7, g8, g9, g10, g11⟩ := id hg
  unfold s_put
  by_cases e1 : ¬ 0 ≤ v
  · rw [if_pos e1]
    refine ⟨tf_rfS G S o 4, tf_Fn_of (own := RX11) false ⟨by decide, rfl, by decide⟩ (Nat.le_of_ble_eq_true rfl) trivial (fun x hx hR => ?_), tf_ms_ref ho hd hM 4, tf_fm_0⟩
    show tf_K x 0 0 G S 0 [some (.ref o), some (.int v), none] []
    refine tf_go hx ftX11_put 3 [] 5 [some (.ref o), some (.int v), none] [.int 9999, .int 0, .int v] S rfl ⟨by decide, by decide, rfl⟩ trivial ?_
    refine tf_cS hx ftX11_put (nx := 8) (As := [.int v, .int 0, .int 9999]) (rest := []) (st2 := [.int (if ¬ 0 ≤ v then (-4) else if ¬ v ≤ 9999 then (-6) else 0)]) (m_within v 0 9999) rfl lX11_65 rfl ⟨rfl, by decide, by decide, by decide, rfl, rfl⟩ ?_
    rw [if_pos e1]
    refine tf_go hx ftX11_put 2 [] 10 [some (.ref o), some (.int v), some (.int (-4))] [.int (-4)] S rfl ⟨by decide, by decide, rfl⟩ trivial ?_
    refine tf_go hx ftX11_put 1 [true] 29 [some (.ref o), some (.int v), some (.int (-4))] [] S rfl ⟨by decide, by decide, rfl⟩ ⟨trivial, (by decide)⟩ ?_
    refine tf_go hx ftX11_put 1 [] 30 [some (.ref o), some (.int v), some (.int (-4))] [.int (-4)] S rfl ⟨by decide, by decide, rfl⟩ trivial ?_
    refine tf_go hx ftX11_put 3 [false] 35 [some (.ref o), some (.int v), some (.int (-4))] [.int (-4), .ref o] S rfl ⟨by decide, by decide, rfl⟩ ⟨trivial, (by decide)⟩ ?_
    refine tf_cV hx ftX11_put (nx := 38) (As := [.int (-4)]) (rest := []) (st2 := [.int (-4)]) (m_ref4 ho) rfl lX11_26 (by first | assumption | rfl | decide) rfl ⟨rfl, by decide, by decide, by decide, rfl, rfl⟩ ?_
    exact tf_ret ftX11_put hR rfl ⟨by decide, by decide⟩ rfl rfl rfl
  · by_cases e2 : ¬ v ≤ 9999
    · rw [if_neg e1, if_pos (Or.inl e2)]
      refine ⟨tf_rfS G S o 6, tf_Fn_of (own := RX11) false ⟨by decide, rfl, by decide⟩ (Nat.le_of_ble_eq_true rfl) trivial (fun x hx hR => ?_), tf_ms_ref ho hd hM 6, tf_fm_0⟩
      show tf_K x 0 0 G S 0 [some (.ref o), some (.int v), none] []
      refine tf_go hx ftX11_put 3 [] 5 [some (.ref o), some (.int v), none] [.int 9999, .int 0, .int v] S rfl ⟨by decide, by decide, rfl⟩ trivial ?_
      refine tf_cS hx ftX11_put (nx := 8) (As := [.int v, .int 0, .int 9999]) (rest := []) (st2 := [.int (if ¬ 0 ≤ v then (-4) else if ¬ v ≤ 9999 then (-6) else 0)]) (m_within v 0 9999) rfl lX11_65 rfl ⟨rfl, by decide, by decide, by decide, rfl, rfl⟩ ?_
      rw [if_neg e1, if_pos e2]
      refine tf_go hx ftX11_put 2 [] 10 [some (.ref o), some (.int v), some (.int (-6))] [.int (-6)] S rfl ⟨by decide, by decide, rfl⟩ trivial ?_
      refine tf_go hx ftX11_put 1 [true] 29 [some (.ref o), some (.int v), some (.int (-6))] [] S rfl ⟨by decide, by decide, rfl⟩ ⟨trivial, (by decide)⟩ ?_
      refine tf_go hx ftX11_put 1 [] 30 [some (.ref o), some (.int v), some (.int (-6))] [.int (-6)] S rfl ⟨by decide, by decide, rfl⟩ trivial ?_
      refine tf_go hx ftX11_put 3 [false] 35 [some (.ref o), some (.int v), some (.int (-6))] [.int (-6), .ref o] S rfl ⟨by decide, by decide, rfl⟩ ⟨trivial, (by decide)⟩ ?_
      refine tf_cV hx ftX11_put (nx := 38) (As := [.int (-6)]) (rest := []) (st2 := [.int (-6)]) (m_ref6 ho) rfl lX11_26 (by first | assumption | rfl | decide) rfl ⟨rfl, by decide, by decide, by decide, rfl, rfl⟩ ?_
      exact tf_ret ftX11_put hR rfl ⟨by decide, by decide⟩ rfl rfl rfl
    · by_cases e3 : A.1 367 = 40
      · rw [if_neg e1, if_pos (Or.inr e3)]
        refine ⟨tf_rfS G S o 6, tf_Fn_of (own := RX11) false ⟨by decide, rfl, by decide⟩ (Nat.le_of_ble_eq_true rfl) trivial (fun x hx hR => ?_), tf_ms_ref ho hd hM 6, tf_fm_0⟩
        show tf_K x 0 0 G S 0 [some (.ref o), some (.int v), none] []
        refine tf_go hx ftX11_put 3 [] 5 [some (.ref o), some (.int v), none] [.int 9999, .int 0, .int v] S rfl ⟨by decide, by decide, rfl⟩ trivial ?_
        refine tf_cS hx ftX11_put (nx := 8) (As := [.int v, .int 0, .int 9999]) (rest := []) (st2 := [.int (if ¬ 0 ≤ v then (-4) else if ¬ v ≤ 9999 then (-6) else 0)]) (m_within v 0 9999) rfl lX11_65 rfl ⟨rfl, by decide, by decide, by decide, rfl, rfl⟩ ?_
        rw [if_neg e1, if_neg e2]
        refine tf_go hx ftX11_put 2 [] 10 [some (.ref o), some (.int v), some (.int 0)] [.int 0] S rfl ⟨by decide, by decide, rfl⟩ trivial ?_
        refine tf_go hx ftX11_put 1 [false] 13 [some (.ref o), some (.int v), some (.int 0)] [] S rfl ⟨by decide, by decide, rfl⟩ ⟨trivial, (by decide)⟩ ?_
        refine tf_go hx ftX11_put 5 [] 23 [some (.ref o), some (.int v), some (.int 0)] [.int 40, .int (S (tf_rf G o 1) (Int32.toNatClampNeg 367))] S rfl ⟨by decide, by decide, rfl⟩ ⟨⟨trivial, ⟨by first | assumption | rfl | decide | omega, by first | assumption | rfl | decide | omega⟩⟩, ⟨Or.inl (by first | assumption | rfl | decide | omega), by first | assumption | exact tf_in (n := 367) (rfl : (367 : Int32) = nI 367) (by first | assumption | rfl) (by omega) (by decide)⟩⟩ ?_
        rw [show (S (tf_rf G o 1) (Int32.toNatClampNeg 367)) = nI (A.1 367) from (tf_rd hs (rfl : (367 : Int32) = nI 367) (by omega))]
        refine tf_go hx ftX11_put 1 [false] 26 [some (.ref o), some (.int v), some (.int 0)] [] S rfl ⟨by decide, by decide, rfl⟩ ⟨trivial, (tf_neF (a := (A.1 367)) (b := 40) rfl (rfl : (40 : Int32) = nI 40) (by have := hb 367; omega))⟩ ?_
        refine tf_go hx ftX11_put 3 [] 30 [some (.ref o), some (.int v), some (.int (-6))] [.int (-6)] S rfl ⟨by decide, by decide, rfl⟩ trivial ?_
        refine tf_go hx ftX11_put 3 [false] 35 [some (.ref o), some (.int v), some (.int (-6))] [.int (-6), .ref o] S rfl ⟨by decide, by decide, rfl⟩ ⟨trivial, (by decide)⟩ ?_
        refine tf_cV hx ftX11_put (nx := 38) (As := [.int (-6)]) (rest := []) (st2 := [.int (-6)]) (m_ref6 ho) rfl lX11_26 (by first | assumption | rfl | decide) rfl ⟨rfl, by decide, by decide, by decide, rfl, rfl⟩ ?_
        exact tf_ret ftX11_put hR rfl ⟨by decide, by decide⟩ rfl rfl rfl
      · rw [if_neg e1, if_neg (by rintro (h | h); exact e2 h; exact e3 h)]
        obtain ⟨v1, v1_le, v1_eq⟩ := nI_of2 (M := 9999) (n := 9999) (x := v) (by decide) (fun h => e1 (fun h2 => absurd h (Int32.not_lt.mpr h2))) (Classical.not_not.mp e2)
        have v1_cl : v.toNatClampNeg = v1 := by rw [v1_eq]; exact tf_cl_nI (by omega)
        rw [v1_cl]
        subst v1_eq
        refine ⟨(tf_rw S (tf_rf G o 1) (tf_u (tf_u A.1 (324 + A.1 367) v1) 367 (A.1 367 + 1))), tf_Fn_of (own := RX11) false ⟨by decide, rfl, by decide⟩ (Nat.le_of_ble_eq_true rfl) trivial (fun x hx hR => ?_), tf_ms_rw ho hd hM _, tf_fm_1⟩
        show tf_K x 0 0 G S 0 [some (.ref o), some (.int (nI v1)), none] []
        refine tf_go hx ftX11_put 3 [] 5 [some (.ref o), some (.int (nI v1)), none] [.int 9999, .int 0, .int (nI v1)] S rfl ⟨by decide, by decide, rfl⟩ trivial ?_
        refine tf_cS hx ftX11_put (nx := 8) (As := [.int (nI v1), .int 0, .int 9999]) (rest := []) (st2 := [.int (if ¬ 0 ≤ (nI v1) then (-4) else if ¬ (nI v1) ≤ 9999 then (-6) else 0)]) (m_within (nI v1) 0 9999) rfl lX11_65 rfl ⟨rfl, by decide, by decide, by decide, rfl, rfl⟩ ?_
        rw [if_neg e1, if_neg e2]
        refine tf_go hx ftX11_put 2 [] 10 [some (.ref o), some (.int (nI v1)), some (.int 0)] [.int 0] S rfl ⟨by decide, by decide, rfl⟩ trivial ?_
        refine tf_go hx ftX11_put 1 [false] 13 [some (.ref o), some (.int (nI v1)), some (.int 0)] [] S rfl ⟨by decide, by decide, rfl⟩ ⟨trivial, (by decide)⟩ ?_
        refine tf_go hx ftX11_put 5 [] 23 [some (.ref o), some (.int (nI v1)), some (.int 0)] [.int 40, .int (S (tf_rf G o 1) (Int32.toNatClampNeg 367))] S rfl ⟨by decide, by decide, rfl⟩ ⟨⟨trivial, ⟨by first | assumption | rfl | decide | omega, by first | assumption | rfl | decide | omega⟩⟩, ⟨Or.inl (by first | assumption | rfl | decide | omega), by first | assumption | exact tf_in (n := 367) (rfl : (367 : Int32) = nI 367) (by first | assumption | rfl) (by omega) (by decide)⟩⟩ ?_
        rw [show (S (tf_rf G o 1) (Int32.toNatClampNeg 367)) = nI (A.1 367) from (tf_rd hs (rfl : (367 : Int32) = nI 367) (by omega))]
        refine tf_go hx ftX11_put 1 [true] 29 [some (.ref o), some (.int (nI v1)), some (.int 0)] [] S rfl ⟨by decide, by decide, rfl⟩ ⟨trivial, (tf_eqF (a := (A.1 367)) (b := 40) rfl (rfl : (40 : Int32) = nI 40) (by have := hb 367; omega) (by have := hb 367; omega) (by have := hb 367; omega))⟩ ?_
        refine tf_go hx ftX11_put 1 [] 30 [some (.ref o), some (.int (nI v1)), some (.int 0)] [.int 0] S rfl ⟨by decide, by decide, rfl⟩ trivial ?_
        refine tf_go hx ftX11_put 1 [true] 39 [some (.ref o), some (.int (nI v1)), some (.int 0)] [] S rfl ⟨by decide, by decide, rfl⟩ ⟨trivial, (by decide)⟩ ?_
        refine tf_go hx ftX11_put 9 [] 56 [some (.ref o), some (.int (nI v1)), some (.int 0)] [.int (nI v1), .int (324 + (S (tf_rf G o 1) (Int32.toNatClampNeg 367))), .ref (tf_rf G o 1)] S rfl ⟨by decide, by decide, rfl⟩ ⟨⟨⟨trivial, ⟨by first | assumption | rfl | decide | omega, by first | assumption | rfl | decide | omega⟩⟩, ⟨by first | assumption | rfl | decide | omega, by first | assumption | rfl | decide | omega⟩⟩, ⟨Or.inl (by first | assumption | rfl | decide | omega), by first | assumption | exact tf_in (n := 367) (rfl : (367 : Int32) = nI 367) (by first | assumption | rfl) (by omega) (by decide)⟩⟩ ?_
        rw [show (324 + (S (tf_rf G o 1) (Int32.toNatClampNeg 367))) = nI (324 + (A.1 367)) from (tf_add (a := 324) (b := (A.1 367)) (rfl : (324 : Int32) = nI 324) (tf_rd hs (rfl : (367 : Int32) = nI 367) (by omega)))]
        refine tf_go hx ftX11_put 1 [] 57 [some (.ref o), some (.int (nI v1)), some (.int 0)] [] (tf_set S (tf_rf G o 1) (Int32.toNatClampNeg (nI (324 + (A.1 367)))) (nI v1)) rfl ⟨by decide, by decide, rfl⟩ ⟨trivial, ⟨by first | assumption | rfl | decide | omega, by first | assumption | exact tf_in (n := (324 + (A.1 367))) rfl (by first | assumption | rfl) (by have := hb 367; omega) (by decide)⟩⟩ ?_
        rw [show Int32.toNatClampNeg (nI (324 + (A.1 367))) = (324 + (A.1 367)) from tf_cln rfl (by have := hb 367; omega)]
        rw [tf_rw_u hs]
        have rr : ∀ k, (tf_rw S (tf_rf G o 1) (tf_u A.1 (324 + A.1 367) v1)) (tf_rf G o 1) k = nI ((tf_u A.1 (324 + A.1 367) v1) k) := tf_rw_a
        have z1 : (tf_u A.1 (324 + A.1 367) v1) 367 = A.1 367 := by unfold tf_u; rw [if_neg (by omega)]
        refine tf_go hx ftX11_put 5 [] 66 [some (.ref o), some (.int (nI v1)), some (.int 0)] [.int ((tf_rw S (tf_rf G o 1) (tf_u A.1 (324 + A.1 367) v1)) (tf_rf G o 1) (Int32.toNatClampNeg 367)), .int 367, .ref (tf_rf G o 1)] (tf_rw S (tf_rf G o 1) (tf_u A.1 (324 + A.1 367) v1)) rfl ⟨by decide, by decide, rfl⟩ ⟨⟨trivial, ⟨by first | assumption | rfl | decide | omega, by first | assumption | rfl | decide | omega⟩⟩, ⟨Or.inl (by first | assumption | rfl | decide | omega), by first | assumption | exact tf_in (n := 367) (rfl : (367 : Int32) = nI 367) (by first | assumption | rfl) (by omega) (by decide)⟩⟩ ?_
        rw [show ((tf_rw S (tf_rf G o 1) (tf_u A.1 (324 + A.1 367) v1)) (tf_rf G o 1) (Int32.toNatClampNeg 367)) = nI ((tf_u A.1 (324 + A.1 367) v1) 367) from (tf_rd rr (rfl : (367 : Int32) = nI 367) (by omega))]
        rw [z1]
        refine tf_go hx ftX11_put 2 [] 68 [some (.ref o), some (.int (nI v1)), some (.int 0)] [.int ((nI (A.1 367)) + 1), .int 367, .ref (tf_rf G o 1)] (tf_rw S (tf_rf G o 1) (tf_u A.1 (324 + A.1 367) v1)) rfl ⟨by decide, by decide, rfl⟩ trivial ?_
        rw [show ((nI (A.1 367)) + 1) = nI ((A.1 367) + 1) from (tf_add (a := (A.1 367)) (b := 1) rfl (rfl : (1 : Int32) = nI 1))]
        refine tf_go hx ftX11_put 1 [] 69 [some (.ref o), some (.int (nI v1)), some (.int 0)] [] (tf_set (tf_rw S (tf_rf G o 1) (tf_u A.1 (324 + A.1 367) v1)) (tf_rf G o 1) (Int32.toNatClampNeg 367) (nI ((A.1 367) + 1))) rfl ⟨by decide, by decide, rfl⟩ ⟨trivial, ⟨by first | assumption | rfl | decide | omega, by first | assumption | exact tf_in (n := 367) (rfl : (367 : Int32) = nI 367) (by first | assumption | rfl) (by omega) (by decide)⟩⟩ ?_
        rw [show Int32.toNatClampNeg (367 : Int32) = 367 from rfl]
        rw [tf_rw_u2]
        have rr2 : ∀ k, (tf_rw S (tf_rf G o 1) (tf_u (tf_u A.1 (324 + A.1 367) v1) 367 (A.1 367 + 1))) (tf_rf G o 1) k = nI ((tf_u (tf_u A.1 (324 + A.1 367) v1) 367 (A.1 367 + 1)) k) := tf_rw_a
        refine tf_go hx ftX11_put 4 [] 77 [some (.ref o), some (.int (nI v1)), some (.int 0)] [.int ((tf_rw S (tf_rf G o 1) (tf_u (tf_u A.1 (324 + A.1 367) v1) 367 (A.1 367 + 1))) (tf_rf G o 1) (Int32.toNatClampNeg 367))] (tf_rw S (tf_rf G o 1) (tf_u (tf_u A.1 (324 + A.1 367) v1) 367 (A.1 367 + 1))) rfl ⟨by decide, by decide, rfl⟩ ⟨⟨trivial, ⟨by first | assumption | rfl | decide | omega, by first | assumption | rfl | decide | omega⟩⟩, ⟨Or.inl (by first | assumption | rfl | decide | omega), by first | assumption | exact tf_in (n := 367) (rfl : (367 : Int32) = nI 367) (by first | assumption | rfl) (by omega) (by decide)⟩⟩ ?_
        rw [show ((tf_rw S (tf_rf G o 1) (tf_u (tf_u A.1 (324 + A.1 367) v1) 367 (A.1 367 + 1))) (tf_rf G o 1) (Int32.toNatClampNeg 367)) = nI ((tf_u (tf_u A.1 (324 + A.1 367) v1) 367 (A.1 367 + 1)) 367) from (tf_rd rr2 (rfl : (367 : Int32) = nI 367) (by omega))]
        exact tf_ret ftX11_put hR rfl ⟨by decide, by decide⟩ rfl rfl (by unfold tf_u; rw [if_pos rfl]; rfl)

set_option maxHeartbeats 2000000 in
theorem p_unput {G : tf_G} {S : tf_Sg} {o : Nat} {A : tf_A}  (ho : tf_mo G o) (hd : tf_md G o) (hA : tf_okA A) (hM : tf_ms G S o A)  : tf_pm mX11_unput 1 G S o [.ref o] (s_unput A) := by
  obtain ⟨h1, ⟨r0, t0, n0⟩, ⟨r1, t1, n1⟩, ⟨r2, t2, n2⟩, ⟨r4, t4, n4⟩⟩ := id ho
  obtain ⟨hg, hb, hA3, hA4, hA5, hA6⟩ := id hA
  have hs := hM.1
  have hf : tf_sf G S o A.1 := ⟨hM.1, hb⟩
  obtain ⟨⟨g1, g2, g3, g4⟩, g5, g6, g7, g8, g9, g10, g11⟩ := id hg
  unfold s_unput
  refine ⟨(tf_rw S (tf_rf G o 1) (tf_u A.1 367 0)), tf_Fn_of (own := RX11) false ⟨by decide, rfl, by decide⟩ (Nat.le_of_ble_eq_true rfl) trivial (fun x hx hR => ?_), tf_ms_rw ho hd hM _, tf_fm_1⟩
  show tf_K x 0 0 G S 0 [some (.ref o), none] []
  refine tf_go hx ftX11_unput 5 [] 9 [some (.ref o), some (.int (S (tf_rf G o 1) (Int32.toNatClampNeg 367)))] [] S rfl ⟨by decide, by decide, rfl⟩ ⟨⟨trivial, ⟨by first | assumption | rfl | decide | omega, by first | assumption | rfl | decide | omega⟩⟩, ⟨Or.inl (by first | assumption | rfl | decide | omega), by first | assumption | exact tf_in (n := 367) (rfl : (367 : Int32) = nI 367) (by first | assumption | rfl) (by omega) (by decide)⟩⟩ ?_
  rw [show (S (tf_rf G o 1) (Int32.toNatClampNeg 367)) = nI (A.1 367) from (tf_rd hs (rfl : (367 : Int32) = nI 367) (by omega))]
  refine tf_go hx ftX11_unput 5 [] 18 [some (.ref o), some (.int (nI (A.1 367)))] [] (tf_set S (tf_rf G o 1) (Int32.toNatClampNeg 367) 0) rfl ⟨by decide, by decide, rfl⟩ ⟨⟨trivial, ⟨by first | assumption | rfl | decide | omega, by first | assumption | rfl | decide | omega⟩⟩, ⟨by first | assumption | rfl | decide | omega, by first | assumption | exact tf_in (n := 367) (rfl : (367 : Int32) = nI 367) (by first | assumption | rfl) (by omega) (by decide)⟩⟩ ?_
  rw [show Int32.toNatClampNeg (367 : Int32) = 367 from rfl]
  rw [show (0 : Int32) = nI 0 from rfl, tf_rw_u hs]
  refine tf_go hx ftX11_unput 1 [] 19 [some (.ref o), some (.int (nI (A.1 367)))] [.int (nI (A.1 367))] (tf_rw S (tf_rf G o 1) (tf_u A.1 367 0)) rfl ⟨by decide, by decide, rfl⟩ trivial ?_
  exact tf_ret ftX11_unput hR rfl ⟨by decide, by decide⟩ rfl rfl rfl

set_option maxHeartbeats 2000000 in
theorem p_piece {G : tf_G} {S : tf_Sg} {o : Nat} {A : tf_A} (i w : Int32) (ho : tf_mo G o) (hd : tf_md G o) (hA : tf_okA A) (hM : tf_ms G S o A)  : tf_pm mX11_piece 3 G S o [.ref o, .int i, .int w] (s_piece A i w) := by
  obtain ⟨h1, ⟨r0, t0, n0⟩, ⟨r1, t1, n1⟩, ⟨r2, t2, n2⟩, ⟨r4, t4, n4⟩⟩ := id ho
  obtain ⟨hg, hb, hA3, hA4, hA5, hA6⟩ := id hA
  have hs := hM.1
  have hf : tf_sf G S o A.1 := ⟨hM.1, hb⟩
  obtain ⟨⟨g1, g2, g3, g4⟩, g5, g6, g7, g8, g9, g10, g11⟩ := id hg
  unfold s_piece
  by_cases c1 : ¬ w < 0 ∧ ¬ 3 ≤ w
  · rw [if_pos c1]
    exact ⟨S, m_piece i w ho hf hg c1, hM, tf_fm_id⟩
  · rw [if_neg c1]
    refine ⟨tf_rfS G S o 2, tf_Fn_of (own := RX11) false ⟨by decide, rfl, by decide⟩ (Nat.le_of_ble_eq_true rfl) trivial (fun x hx hR => ?_), tf_ms_ref ho hd hM 2, tf_fm_0⟩
    show tf_K x 0 0 G S 0 [some (.ref o), some (.int i), some (.int w), none, none] []
    refine tf_go hx ftX11_piece 2 [] 2 [some (.ref o), some (.int i), some (.int w), none, none] [.int 3, .int w] S rfl ⟨by decide, by decide, rfl⟩ trivial ?_
    refine tf_cS hx ftX11_piece (nx := 5) (As := [.int w, .int 3]) (rest := []) (st2 := [.int (if ¬ w < 0 ∧ ¬ 3 ≤ w then 1 else 0)]) (m_isIn w 3) rfl lX11_22 rfl ⟨rfl, by decide, by decide, by decide, rfl, rfl⟩ ?_
    rw [if_neg c1]
    refine tf_go hx ftX11_piece 3 [false] 11 [some (.ref o), some (.int i), some (.int w), none, none] [.int (-2), .ref o] S rfl ⟨by decide, by decide, rfl⟩ ⟨trivial, (by decide)⟩ ?_
    refine tf_cV hx ftX11_piece (nx := 14) (As := [.int (-2)]) (rest := []) (st2 := [.int (-2)]) (m_ref2 ho) rfl lX11_26 (by first | assumption | rfl | decide) rfl ⟨rfl, by decide, by decide, by decide, rfl, rfl⟩ ?_
    exact tf_ret ftX11_piece hR rfl ⟨by decide, by decide⟩ rfl rfl rfl

set_option maxHeartbeats 2000000 in
theorem p_pieces {G : tf_G} {S : tf_Sg} {o : Nat} {A : tf_A}  (ho : tf_mo G o) (hd : tf_md G o) (hA : tf_okA A) (hM : tf_ms G S o A)  : tf_pm mX11_pieces 3 G S o [.ref o] (s_pieces A) := by
  obtain ⟨h1, ⟨r0, t0, n0⟩, ⟨r1, t1, n1⟩, ⟨r2, t2, n2⟩, ⟨r4, t4, n4⟩⟩ := id ho
  obtain ⟨hg, hb, hA3, hA4, hA5, hA6⟩ := id hA
  have hs := hM.1
  have hf : tf_sf G S o A.1 := ⟨hM.1, hb⟩
  obtain ⟨⟨g1, g2, g3, g4⟩, g5, g6, g7, g8, g9, g10, g11⟩ := id hg
  unfold s_pieces
  exact ⟨S, m_pieces ho hf hg, hM, tf_fm_id⟩

theorem tf_cnt {w : Int32} (h1 : 10 < w) (h2 : w < 17) : vp_in (w - 10) 7 := by
  obtain ⟨j, hj, rfl⟩ := nI_of2 (M := 17) (n := 17) (x := w) (by decide) (fun h => absurd (Int32.lt_trans h1 h) (by decide)) (Int32.le_of_lt h2)
  have a : 10 < j := by
    have h3 : nI 10 < nI j := h1
    exact (nI_ltI (by decide) (by omega)).mp h3
  have b : j < 17 := by
    have h3 : nI j < nI 17 := h2
    exact (nI_ltI (by omega) (by decide)).mp h3
  rw [show nI j - 10 = nI (j - 10) from tf_sub (a := j) (b := 10) rfl rfl (by omega)]
  exact vp_in_nI (by omega) (by decide)
theorem tf_out5 {w : Int32} (k0 : ¬ w = 0) (k1 : ¬ w = 1) (k2 : ¬ w = 2) (k3 : ¬ w = 3) (k4 : ¬ w = 4) : w.toInt < 0 ∨ 4 < w.toInt := by
  rcases Int.lt_or_le w.toInt 0 with h | h
  · exact Or.inl h
  · refine Or.inr (Int.lt_of_not_ge fun h2 => ?_)
    obtain ⟨j, hj, rfl⟩ := vp_in_of (x := w) (n := 5) (vp_in_iff.mpr ⟨h, by omega⟩) (by decide)
    match j, hj with
    | 0, _ => exact k0 rfl
    | 1, _ => exact k1 rfl
    | 2, _ => exact k2 rfl
    | 3, _ => exact k3 rfl
    | 4, _ => exact k4 rfl

set_option maxHeartbeats 2000000 in
theorem p_count {G : tf_G} {S : tf_Sg} {o : Nat} {A : tf_A} (w : Int32) (ho : tf_mo G o) (hd : tf_md G o) (hA : tf_okA A) (hM : tf_ms G S o A)  : tf_pm mX11_count 1 G S o [.ref o, .int w] (s_count A w) := by
  obtain ⟨h1, ⟨r0, t0, n0⟩, ⟨r1, t1, n1⟩, ⟨r2, t2, n2⟩, ⟨r4, t4, n4⟩⟩ := id ho
  obtain ⟨hg, hb, hA3, hA4, hA5, hA6⟩ := id hA
  have hs := hM.1
  have hf : tf_sf G S o A.1 := ⟨hM.1, hb⟩
  obtain ⟨⟨g1, g2, g3, g4⟩, g5, g6, g7, g8, g9, g10, g11⟩ := id hg
  unfold s_count
  by_cases c1 : 10 < w
  · by_cases c2 : w < 17
    · rw [if_pos ⟨c1, c2⟩]
      refine ⟨S, tf_Fn_of (own := RX11) false ⟨by decide, rfl, by decide⟩ (Nat.le_of_ble_eq_true rfl) trivial (fun x hx hR => ?_), hM, tf_fm_id⟩
      show tf_K x 0 0 G S 0 [some (.ref o), some (.int w)] []
      have h6 : vp_in (w - 10) (tf_ln G (tf_rf G o 0)) := by rw [n0]; exact tf_cnt c1 c2
      refine tf_go hx ftX11_count 2 [] 3 [some (.ref o), some (.int w)] [.int 10, .int w] S rfl ⟨by decide, by decide, rfl⟩ trivial ?_
      refine tf_go hx ftX11_count 1 [false] 6 [some (.ref o), some (.int w)] [] S rfl ⟨by decide, by decide, rfl⟩ ⟨trivial, (fun h => absurd c1 (Int32.not_lt.mpr h))⟩ ?_
      refine tf_go hx ftX11_count 2 [] 9 [some (.ref o), some (.int w)] [.int 17, .int w] S rfl ⟨by decide, by decide, rfl⟩ trivial ?_
      refine tf_go hx ftX11_count 7 [false] 21 [some (.ref o), some (.int w)] [.int (S (tf_rf G o 0) (Int32.toNatClampNeg (w - 10)))] S rfl ⟨by decide, by decide, rfl⟩ ⟨⟨⟨trivial, (Int32.not_le.mpr c2)⟩, ⟨by first | assumption | rfl | decide | omega, by first | assumption | rfl | decide | omega⟩⟩, ⟨Or.inl (by first | assumption | rfl | decide | omega), by first | assumption | rfl | decide | omega⟩⟩ ?_
      exact tf_ret ftX11_count hR rfl ⟨by decide, by decide⟩ rfl rfl (by rw [hM.2.2.2.1]; rfl)
    · rw [if_neg (by rintro ⟨x1, x2⟩; exact c2 x2)]
      by_cases k0 : w = 0
      · rw [if_pos k0]
        subst k0
        refine ⟨S, tf_Fn_of (own := RX11) false ⟨by decide, rfl, by decide⟩ (Nat.le_of_ble_eq_true rfl) trivial (fun x hx hR => ?_), hM, tf_fm_id⟩
        show tf_K x 0 0 G S 0 [some (.ref o), some (.int 0)] []
        refine tf_go hx ftX11_count 2 [] 3 [some (.ref o), some (.int 0)] [.int 10, .int 0] S rfl ⟨by decide, by decide, rfl⟩ trivial ?_
        refine tf_go hx ftX11_count 1 [false] 6 [some (.ref o), some (.int 0)] [] S rfl ⟨by decide, by decide, rfl⟩ ⟨trivial, (fun h => absurd c1 (Int32.not_lt.mpr h))⟩ ?_
        refine tf_go hx ftX11_count 2 [] 9 [some (.ref o), some (.int 0)] [.int 17, .int 0] S rfl ⟨by decide, by decide, rfl⟩ trivial ?_
        refine tf_go hx ftX11_count 1 [true] 22 [some (.ref o), some (.int 0)] [] S rfl ⟨by decide, by decide, rfl⟩ ⟨trivial, (Int32.not_lt.mp c2)⟩ ?_
        refine tf_go hx ftX11_count 1 [] 23 [some (.ref o), some (.int 0)] [.int 0] S rfl ⟨by decide, by decide, rfl⟩ trivial ?_
        refine tf_swI hx ftX11_count 56 rfl ⟨by decide, by decide, rfl, by decide⟩ ?_
        refine tf_go hx ftX11_count 4 [] 64 [some (.ref o), some (.int 0)] [.int (S (tf_rf G o 1) (Int32.toNatClampNeg 364))] S rfl ⟨by decide, by decide, rfl⟩ ⟨⟨trivial, ⟨by first | assumption | rfl | decide | omega, by first | assumption | rfl | decide | omega⟩⟩, ⟨Or.inl (by first | assumption | rfl | decide | omega), by first | assumption | exact tf_in (n := 364) (rfl : (364 : Int32) = nI 364) (by first | assumption | rfl) (by omega) (by decide)⟩⟩ ?_
        rw [show (S (tf_rf G o 1) (Int32.toNatClampNeg 364)) = nI (A.1 364) from (tf_rd hs (rfl : (364 : Int32) = nI 364) (by omega))]
        exact tf_ret ftX11_count hR rfl ⟨by decide, by decide⟩ rfl rfl rfl
      · by_cases k1 : w = 1
        · rw [if_neg k0, if_pos k1]
          subst k1
          refine ⟨S, tf_Fn_of (own := RX11) false ⟨by decide, rfl, by decide⟩ (Nat.le_of_ble_eq_true rfl) trivial (fun x hx hR => ?_), hM, tf_fm_id⟩
          show tf_K x 0 0 G S 0 [some (.ref o), some (.int 1)] []
          refine tf_go hx ftX11_count 2 [] 3 [some (.ref o), some (.int 1)] [.int 10, .int 1] S rfl ⟨by decide, by decide, rfl⟩ trivial ?_
          refine tf_go hx ftX11_count 1 [false] 6 [some (.ref o), some (.int 1)] [] S rfl ⟨by decide, by decide, rfl⟩ ⟨trivial, (fun h => absurd c1 (Int32.not_lt.mpr h))⟩ ?_
          refine tf_go hx ftX11_count 2 [] 9 [some (.ref o), some (.int 1)] [.int 17, .int 1] S rfl ⟨by decide, by decide, rfl⟩ trivial ?_
          refine tf_go hx ftX11_count 1 [true] 22 [some (.ref o), some (.int 1)] [] S rfl ⟨by decide, by decide, rfl⟩ ⟨trivial, (Int32.not_lt.mp c2)⟩ ?_
          refine tf_go hx ftX11_count 1 [] 23 [some (.ref o), some (.int 1)] [.int 1] S rfl ⟨by decide, by decide, rfl⟩ trivial ?_
          refine tf_swI hx ftX11_count 65 rfl ⟨by decide, by decide, rfl, by decide⟩ ?_
          refine tf_go hx ftX11_count 4 [] 73 [some (.ref o), some (.int 1)] [.int (S (tf_rf G o 1) (Int32.toNatClampNeg 365))] S rfl ⟨by decide, by decide, rfl⟩ ⟨⟨trivial, ⟨by first | assumption | rfl | decide | omega, by first | assumption | rfl | decide | omega⟩⟩, ⟨Or.inl (by first | assumption | rfl | decide | omega), by first | assumption | exact tf_in (n := 365) (rfl : (365 : Int32) = nI 365) (by first | assumption | rfl) (by omega) (by decide)⟩⟩ ?_
          rw [show (S (tf_rf G o 1) (Int32.toNatClampNeg 365)) = nI (A.1 365) from (tf_rd hs (rfl : (365 : Int32) = nI 365) (by omega))]
          exact tf_ret ftX11_count hR rfl ⟨by decide, by decide⟩ rfl rfl rfl
        · by_cases k2 : w = 2
          · rw [if_neg k0, if_neg k1, if_pos k2]
            subst k2
            refine ⟨S, tf_Fn_of (own := RX11) false ⟨by decide, rfl, by decide⟩ (Nat.le_of_ble_eq_true rfl) trivial (fun x hx hR => ?_), hM, tf_fm_id⟩
            show tf_K x 0 0 G S 0 [some (.ref o), some (.int 2)] []
            refine tf_go hx ftX11_count 2 [] 3 [some (.ref o), some (.int 2)] [.int 10, .int 2] S rfl ⟨by decide, by decide, rfl⟩ trivial ?_
            refine tf_go hx ftX11_count 1 [false] 6 [some (.ref o), some (.int 2)] [] S rfl ⟨by decide, by decide, rfl⟩ ⟨trivial, (fun h => absurd c1 (Int32.not_lt.mpr h))⟩ ?_
            refine tf_go hx ftX11_count 2 [] 9 [some (.ref o), some (.int 2)] [.int 17, .int 2] S rfl ⟨by decide, by decide, rfl⟩ trivial ?_
            refine tf_go hx ftX11_count 1 [true] 22 [some (.ref o), some (.int 2)] [] S rfl ⟨by decide, by decide, rfl⟩ ⟨trivial, (Int32.not_lt.mp c2)⟩ ?_
            refine tf_go hx ftX11_count 1 [] 23 [some (.ref o), some (.int 2)] [.int 2] S rfl ⟨by decide, by decide, rfl⟩ trivial ?_
            refine tf_swI hx ftX11_count 74 rfl ⟨by decide, by decide, rfl, by decide⟩ ?_
            refine tf_go hx ftX11_count 4 [] 82 [some (.ref o), some (.int 2)] [.int (S (tf_rf G o 1) (Int32.toNatClampNeg 366))] S rfl ⟨by decide, by decide, rfl⟩ ⟨⟨trivial, ⟨by first | assumption | rfl | decide | omega, by first | assumption | rfl | decide | omega⟩⟩, ⟨Or.inl (by first | assumption | rfl | decide | omega), by first | assumption | exact tf_in (n := 366) (rfl : (366 : Int32) = nI 366) (by first | assumption | rfl) (by omega) (by decide)⟩⟩ ?_
            rw [show (S (tf_rf G o 1) (Int32.toNatClampNeg 366)) = nI (A.1 366) from (tf_rd hs (rfl : (366 : Int32) = nI 366) (by omega))]
            exact tf_ret ftX11_count hR rfl ⟨by decide, by decide⟩ rfl rfl rfl
          · by_cases k3 : w = 3
            · rw [if_neg k0, if_neg k1, if_neg k2, if_pos k3]
              subst k3
              refine ⟨S, tf_Fn_of (own := RX11) false ⟨by decide, rfl, by decide⟩ (Nat.le_of_ble_eq_true rfl) trivial (fun x hx hR => ?_), hM, tf_fm_id⟩
              show tf_K x 0 0 G S 0 [some (.ref o), some (.int 3)] []
              refine tf_go hx ftX11_count 2 [] 3 [some (.ref o), some (.int 3)] [.int 10, .int 3] S rfl ⟨by decide, by decide, rfl⟩ trivial ?_
              refine tf_go hx ftX11_count 1 [false] 6 [some (.ref o), some (.int 3)] [] S rfl ⟨by decide, by decide, rfl⟩ ⟨trivial, (fun h => absurd c1 (Int32.not_lt.mpr h))⟩ ?_
              refine tf_go hx ftX11_count 2 [] 9 [some (.ref o), some (.int 3)] [.int 17, .int 3] S rfl ⟨by decide, by decide, rfl⟩ trivial ?_
              refine tf_go hx ftX11_count 1 [true] 22 [some (.ref o), some (.int 3)] [] S rfl ⟨by decide, by decide, rfl⟩ ⟨trivial, (Int32.not_lt.mp c2)⟩ ?_
              refine tf_go hx ftX11_count 1 [] 23 [some (.ref o), some (.int 3)] [.int 3] S rfl ⟨by decide, by decide, rfl⟩ trivial ?_
              refine tf_swI hx ftX11_count 83 rfl ⟨by decide, by decide, rfl, by decide⟩ ?_
              refine tf_go hx ftX11_count 4 [] 91 [some (.ref o), some (.int 3)] [.int (S (tf_rf G o 1) (Int32.toNatClampNeg 367))] S rfl ⟨by decide, by decide, rfl⟩ ⟨⟨trivial, ⟨by first | assumption | rfl | decide | omega, by first | assumption | rfl | decide | omega⟩⟩, ⟨Or.inl (by first | assumption | rfl | decide | omega), by first | assumption | exact tf_in (n := 367) (rfl : (367 : Int32) = nI 367) (by first | assumption | rfl) (by omega) (by decide)⟩⟩ ?_
              rw [show (S (tf_rf G o 1) (Int32.toNatClampNeg 367)) = nI (A.1 367) from (tf_rd hs (rfl : (367 : Int32) = nI 367) (by omega))]
              exact tf_ret ftX11_count hR rfl ⟨by decide, by decide⟩ rfl rfl rfl
            · by_cases k4 : w = 4
              · rw [if_neg k0, if_neg k1, if_neg k2, if_neg k3, if_pos k4]
                subst k4
                refine ⟨S, tf_Fn_of (own := RX11) false ⟨by decide, rfl, by decide⟩ (Nat.le_of_ble_eq_true rfl) trivial (fun x hx hR => ?_), hM, tf_fm_id⟩
                show tf_K x 0 0 G S 0 [some (.ref o), some (.int 4)] []
                refine tf_go hx ftX11_count 2 [] 3 [some (.ref o), some (.int 4)] [.int 10, .int 4] S rfl ⟨by decide, by decide, rfl⟩ trivial ?_
                refine tf_go hx ftX11_count 1 [false] 6 [some (.ref o), some (.int 4)] [] S rfl ⟨by decide, by decide, rfl⟩ ⟨trivial, (fun h => absurd c1 (Int32.not_lt.mpr h))⟩ ?_
                refine tf_go hx ftX11_count 2 [] 9 [some (.ref o), some (.int 4)] [.int 17, .int 4] S rfl ⟨by decide, by decide, rfl⟩ trivial ?_
                refine tf_go hx ftX11_count 1 [true] 22 [some (.ref o), some (.int 4)] [] S rfl ⟨by decide, by decide, rfl⟩ ⟨trivial, (Int32.not_lt.mp c2)⟩ ?_
                refine tf_go hx ftX11_count 1 [] 23 [some (.ref o), some (.int 4)] [.int 4] S rfl ⟨by decide, by decide, rfl⟩ trivial ?_
                refine tf_swI hx ftX11_count 92 rfl ⟨by decide, by decide, rfl, by decide⟩ ?_
                refine tf_go hx ftX11_count 2 [] 96 [some (.ref o), some (.int 4)] [.int (S o 5)] S rfl ⟨by decide, by decide, rfl⟩ ⟨trivial, (by first | assumption | rfl | decide | omega)⟩ ?_
                rw [show (S o 5) = nI A.2.2.1 from hM.2.2.1]
                exact tf_ret ftX11_count hR rfl ⟨by decide, by decide⟩ rfl rfl rfl
              · rw [if_neg k0, if_neg k1, if_neg k2, if_neg k3, if_neg k4]
                refine ⟨S, tf_Fn_of (own := RX11) false ⟨by decide, rfl, by decide⟩ (Nat.le_of_ble_eq_true rfl) trivial (fun x hx hR => ?_), hM, tf_fm_id⟩
                show tf_K x 0 0 G S 0 [some (.ref o), some (.int w)] []
                refine tf_go hx ftX11_count 2 [] 3 [some (.ref o), some (.int w)] [.int 10, .int w] S rfl ⟨by decide, by decide, rfl⟩ trivial ?_
                refine tf_go hx ftX11_count 1 [false] 6 [some (.ref o), some (.int w)] [] S rfl ⟨by decide, by decide, rfl⟩ ⟨trivial, (fun h => absurd c1 (Int32.not_lt.mpr h))⟩ ?_
                refine tf_go hx ftX11_count 2 [] 9 [some (.ref o), some (.int w)] [.int 17, .int w] S rfl ⟨by decide, by decide, rfl⟩ trivial ?_
                refine tf_go hx ftX11_count 1 [true] 22 [some (.ref o), some (.int w)] [] S rfl ⟨by decide, by decide, rfl⟩ ⟨trivial, (Int32.not_lt.mp c2)⟩ ?_
                refine tf_go hx ftX11_count 1 [] 23 [some (.ref o), some (.int w)] [.int w] S rfl ⟨by decide, by decide, rfl⟩ trivial ?_
                refine tf_swO hx ftX11_count 97 rfl ⟨tf_out5 k0 k1 k2 k3 k4, by decide⟩ ?_
                refine tf_go hx ftX11_count 1 [] 99 [some (.ref o), some (.int w)] [.int (-9)] S rfl ⟨by decide, by decide, rfl⟩ trivial ?_
                exact tf_ret ftX11_count hR rfl ⟨by decide, by decide⟩ rfl rfl rfl
  · rw [if_neg (by rintro ⟨x1, x2⟩; exact c1 x1)]
    by_cases k0 : w = 0
    · rw [if_pos k0]
      subst k0
      refine ⟨S, tf_Fn_of (own := RX11) false ⟨by decide, rfl, by decide⟩ (Nat.le_of_ble_eq_true rfl) trivial (fun x hx hR => ?_), hM, tf_fm_id⟩
      show tf_K x 0 0 G S 0 [some (.ref o), some (.int 0)] []
      refine tf_go hx ftX11_count 2 [] 3 [some (.ref o), some (.int 0)] [.int 10, .int 0] S rfl ⟨by decide, by decide, rfl⟩ trivial ?_
      refine tf_go hx ftX11_count 1 [true] 22 [some (.ref o), some (.int 0)] [] S rfl ⟨by decide, by decide, rfl⟩ ⟨trivial, (Int32.not_lt.mp c1)⟩ ?_
      refine tf_go hx ftX11_count 1 [] 23 [some (.ref o), some (.int 0)] [.int 0] S rfl ⟨by decide, by decide, rfl⟩ trivial ?_
      refine tf_swI hx ftX11_count 56 rfl ⟨by decide, by decide, rfl, by decide⟩ ?_
      refine tf_go hx ftX11_count 4 [] 64 [some (.ref o), some (.int 0)] [.int (S (tf_rf G o 1) (Int32.toNatClampNeg 364))] S rfl ⟨by decide, by decide, rfl⟩ ⟨⟨trivial, ⟨by first | assumption | rfl | decide | omega, by first | assumption | rfl | decide | omega⟩⟩, ⟨Or.inl (by first | assumption | rfl | decide | omega), by first | assumption | exact tf_in (n := 364) (rfl : (364 : Int32) = nI 364) (by first | assumption | rfl) (by omega) (by decide)⟩⟩ ?_
      rw [show (S (tf_rf G o 1) (Int32.toNatClampNeg 364)) = nI (A.1 364) from (tf_rd hs (rfl : (364 : Int32) = nI 364) (by omega))]
      exact tf_ret ftX11_count hR rfl ⟨by decide, by decide⟩ rfl rfl rfl
    · by_cases k1 : w = 1
      · rw [if_neg k0, if_pos k1]
        subst k1
        refine ⟨S, tf_Fn_of (own := RX11) false ⟨by decide, rfl, by decide⟩ (Nat.le_of_ble_eq_true rfl) trivial (fun x hx hR => ?_), hM, tf_fm_id⟩
        show tf_K x 0 0 G S 0 [some (.ref o), some (.int 1)] []
        refine tf_go hx ftX11_count 2 [] 3 [some (.ref o), some (.int 1)] [.int 10, .int 1] S rfl ⟨by decide, by decide, rfl⟩ trivial ?_
        refine tf_go hx ftX11_count 1 [true] 22 [some (.ref o), some (.int 1)] [] S rfl ⟨by decide, by decide, rfl⟩ ⟨trivial, (Int32.not_lt.mp c1)⟩ ?_
        refine tf_go hx ftX11_count 1 [] 23 [some (.ref o), some (.int 1)] [.int 1] S rfl ⟨by decide, by decide, rfl⟩ trivial ?_
        refine tf_swI hx ftX11_count 65 rfl ⟨by decide, by decide, rfl, by decide⟩ ?_
        refine tf_go hx ftX11_count 4 [] 73 [some (.ref o), some (.int 1)] [.int (S (tf_rf G o 1) (Int32.toNatClampNeg 365))] S rfl ⟨by decide, by decide, rfl⟩ ⟨⟨trivial, ⟨by first | assumption | rfl | decide | omega, by first | assumption | rfl | decide | omega⟩⟩, ⟨Or.inl (by first | assumption | rfl | decide | omega), by first | assumption | exact tf_in (n := 365) (rfl : (365 : Int32) = nI 365) (by first | assumption | rfl) (by omega) (by decide)⟩⟩ ?_
        rw [show (S (tf_rf G o 1) (Int32.toNatClampNeg 365)) = nI (A.1 365) from (tf_rd hs (rfl : (365 : Int32) = nI 365) (by omega))]
        exact tf_ret ftX11_count hR rfl ⟨by decide, by decide⟩ rfl rfl rfl
      · by_cases k2 : w = 2
        · rw [if_neg k0, if_neg k1, if_pos k2]
          subst k2
          refine ⟨S, tf_Fn_of (own := RX11) false ⟨by decide, rfl, by decide⟩ (Nat.le_of_ble_eq_true rfl) trivial (fun x hx hR => ?_), hM, tf_fm_id⟩
          show tf_K x 0 0 G S 0 [some (.ref o), some (.int 2)] []
          refine tf_go hx ftX11_count 2 [] 3 [some (.ref o), some (.int 2)] [.int 10, .int 2] S rfl ⟨by decide, by decide, rfl⟩ trivial ?_
          refine tf_go hx ftX11_count 1 [true] 22 [some (.ref o), some (.int 2)] [] S rfl ⟨by decide, by decide, rfl⟩ ⟨trivial, (Int32.not_lt.mp c1)⟩ ?_
          refine tf_go hx ftX11_count 1 [] 23 [some (.ref o), some (.int 2)] [.int 2] S rfl ⟨by decide, by decide, rfl⟩ trivial ?_
          refine tf_swI hx ftX11_count 74 rfl ⟨by decide, by decide, rfl, by decide⟩ ?_
          refine tf_go hx ftX11_count 4 [] 82 [some (.ref o), some (.int 2)] [.int (S (tf_rf G o 1) (Int32.toNatClampNeg 366))] S rfl ⟨by decide, by decide, rfl⟩ ⟨⟨trivial, ⟨by first | assumption | rfl | decide | omega, by first | assumption | rfl | decide | omega⟩⟩, ⟨Or.inl (by first | assumption | rfl | decide | omega), by first | assumption | exact tf_in (n := 366) (rfl : (366 : Int32) = nI 366) (by first | assumption | rfl) (by omega) (by decide)⟩⟩ ?_
          rw [show (S (tf_rf G o 1) (Int32.toNatClampNeg 366)) = nI (A.1 366) from (tf_rd hs (rfl : (366 : Int32) = nI 366) (by omega))]
          exact tf_ret ftX11_count hR rfl ⟨by decide, by decide⟩ rfl rfl rfl
        · by_cases k3 : w = 3
          · rw [if_neg k0, if_neg k1, if_neg k2, if_pos k3]
            subst k3
            refine ⟨S, tf_Fn_of (own := RX11) false ⟨by decide, rfl, by decide⟩ (Nat.le_of_ble_eq_true rfl) trivial (fun x hx hR => ?_), hM, tf_fm_id⟩
            show tf_K x 0 0 G S 0 [some (.ref o), some (.int 3)] []
            refine tf_go hx ftX11_count 2 [] 3 [some (.ref o), some (.int 3)] [.int 10, .int 3] S rfl ⟨by decide, by decide, rfl⟩ trivial ?_
            refine tf_go hx ftX11_count 1 [true] 22 [some (.ref o), some (.int 3)] [] S rfl ⟨by decide, by decide, rfl⟩ ⟨trivial, (Int32.not_lt.mp c1)⟩ ?_
            refine tf_go hx ftX11_count 1 [] 23 [some (.ref o), some (.int 3)] [.int 3] S rfl ⟨by decide, by decide, rfl⟩ trivial ?_
            refine tf_swI hx ftX11_count 83 rfl ⟨by decide, by decide, rfl, by decide⟩ ?_
            refine tf_go hx ftX11_count 4 [] 91 [some (.ref o), some (.int 3)] [.int (S (tf_rf G o 1) (Int32.toNatClampNeg 367))] S rfl ⟨by decide, by decide, rfl⟩ ⟨⟨trivial, ⟨by first | assumption | rfl | decide | omega, by first | assumption | rfl | decide | omega⟩⟩, ⟨Or.inl (by first | assumption | rfl | decide | omega), by first | assumption | exact tf_in (n := 367) (rfl : (367 : Int32) = nI 367) (by first | assumption | rfl) (by omega) (by decide)⟩⟩ ?_
            rw [show (S (tf_rf G o 1) (Int32.toNatClampNeg 367)) = nI (A.1 367) from (tf_rd hs (rfl : (367 : Int32) = nI 367) (by omega))]
            exact tf_ret ftX11_count hR rfl ⟨by decide, by decide⟩ rfl rfl rfl
          · by_cases k4 : w = 4
            · rw [if_neg k0, if_neg k1, if_neg k2, if_neg k3, if_pos k4]
              subst k4
              refine ⟨S, tf_Fn_of (own := RX11) false ⟨by decide, rfl, by decide⟩ (Nat.le_of_ble_eq_true rfl) trivial (fun x hx hR => ?_), hM, tf_fm_id⟩
              show tf_K x 0 0 G S 0 [some (.ref o), some (.int 4)] []
              refine tf_go hx ftX11_count 2 [] 3 [some (.ref o), some (.int 4)] [.int 10, .int 4] S rfl ⟨by decide, by decide, rfl⟩ trivial ?_
              refine tf_go hx ftX11_count 1 [true] 22 [some (.ref o), some (.int 4)] [] S rfl ⟨by decide, by decide, rfl⟩ ⟨trivial, (Int32.not_lt.mp c1)⟩ ?_
              refine tf_go hx ftX11_count 1 [] 23 [some (.ref o), some (.int 4)] [.int 4] S rfl ⟨by decide, by decide, rfl⟩ trivial ?_
              refine tf_swI hx ftX11_count 92 rfl ⟨by decide, by decide, rfl, by decide⟩ ?_
              refine tf_go hx ftX11_count 2 [] 96 [some (.ref o), some (.int 4)] [.int (S o 5)] S rfl ⟨by decide, by decide, rfl⟩ ⟨trivial, (by first | assumption | rfl | decide | omega)⟩ ?_
              rw [show (S o 5) = nI A.2.2.1 from hM.2.2.1]
              exact tf_ret ftX11_count hR rfl ⟨by decide, by decide⟩ rfl rfl rfl
            · rw [if_neg k0, if_neg k1, if_neg k2, if_neg k3, if_neg k4]
              refine ⟨S, tf_Fn_of (own := RX11) false ⟨by decide, rfl, by decide⟩ (Nat.le_of_ble_eq_true rfl) trivial (fun x hx hR => ?_), hM, tf_fm_id⟩
              show tf_K x 0 0 G S 0 [some (.ref o), some (.int w)] []
              refine tf_go hx ftX11_count 2 [] 3 [some (.ref o), some (.int w)] [.int 10, .int w] S rfl ⟨by decide, by decide, rfl⟩ trivial ?_
              refine tf_go hx ftX11_count 1 [true] 22 [some (.ref o), some (.int w)] [] S rfl ⟨by decide, by decide, rfl⟩ ⟨trivial, (Int32.not_lt.mp c1)⟩ ?_
              refine tf_go hx ftX11_count 1 [] 23 [some (.ref o), some (.int w)] [.int w] S rfl ⟨by decide, by decide, rfl⟩ trivial ?_
              refine tf_swO hx ftX11_count 97 rfl ⟨tf_out5 k0 k1 k2 k3 k4, by decide⟩ ?_
              refine tf_go hx ftX11_count 1 [] 99 [some (.ref o), some (.int w)] [.int (-9)] S rfl ⟨by decide, by decide, rfl⟩ trivial ?_
              exact tf_ret ftX11_count hR rfl ⟨by decide, by decide⟩ rfl rfl rfl

