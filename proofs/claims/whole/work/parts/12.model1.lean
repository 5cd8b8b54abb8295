def fX11 : tf_F := [(1, 102, 0), (7, 8, 0), (13, 8, 1), (16, 8, 2), (19, 8, 4), (30, 8, 5), (34, 103, 255), (136, 8, 3)]
set_option maxRecDepth 100000 in
theorem okfX11 : tf_okF RX11 fX11 := by unfold tf_okF; decide +kernel

def tX11_isIn : tf_T := [(0, .iload_n 0, 1, 0, 0),
  (1, .ifCond .lt 12, 4, 13, 0),
  (4, .iload_n 0, 5, 0, 0),
  (5, .iload_n 1, 6, 0, 0),
  (6, .if_icmp .ge 7, 9, 13, 0),
  (9, .iconst 1, 10, 0, 1),
  (10, .goto 4, 13, 14, 0),
  (13, .iconst 0, 14, 0, 0),
  (14, .ireturn, 15, 0, 0)]
set_option maxRecDepth 100000 in
theorem okX11_isIn : tf_okT cX11_isIn tX11_isIn := by unfold tf_okT; decide +kernel
theorem ftX11_isIn : 1 ≤ 1 ∧ tf_okF RX11 fX11 ∧ tf_okT cX11_isIn tX11_isIn := ⟨by decide, okfX11, okX11_isIn⟩
def mX11_isIn : tf_M := (yX11_isIn, cX11_isIn, 2, (some .boolean))

def tX11_within : tf_T := [(0, .iload_n 0, 1, 0, 0),
  (1, .iload_n 1, 2, 0, 0),
  (2, .if_icmp .ge 8, 5, 10, 0),
  (5, .bipush (-4), 7, 0, (-4)),
  (7, .goto 14, 10, 21, 0),
  (10, .iload_n 0, 11, 0, 0),
  (11, .iload_n 2, 12, 0, 0),
  (12, .if_icmp .le 8, 15, 20, 0),
  (15, .bipush (-6), 17, 0, (-6)),
  (17, .goto 4, 20, 21, 0),
  (20, .iconst 0, 21, 0, 0),
  (21, .ireturn, 22, 0, 0)]
set_option maxRecDepth 100000 in
theorem okX11_within : tf_okT cX11_within tX11_within := by unfold tf_okT; decide +kernel
theorem ftX11_within : 1 ≤ 1 ∧ tf_okF RX11 fX11 ∧ tf_okT cX11_within tX11_within := ⟨by decide, okfX11, okX11_within⟩
def mX11_within : tf_M := (yX11_within, cX11_within, 3, (some .int))

def tX11_amount : tf_T := [(0, .iload_n 0, 1, 0, 0),
  (1, .ifCond .ge 8, 4, 9, 0),
  (4, .iload_n 0, 5, 0, 0),
  (5, .ineg, 6, 0, 0),
  (6, .goto 4, 9, 10, 0),
  (9, .iload_n 0, 10, 0, 0),
  (10, .ireturn, 11, 0, 0)]
set_option maxRecDepth 100000 in
theorem okX11_amount : tf_okT cX11_amount tX11_amount := by unfold tf_okT; decide +kernel
theorem ftX11_amount : 1 ≤ 1 ∧ tf_okF RX11 fX11 ∧ tf_okT cX11_amount tX11_amount := ⟨by decide, okfX11, okX11_amount⟩
def mX11_amount : tf_M := (yX11_amount, cX11_amount, 1, (some .int))

def tX11_isHand : tf_T := [(0, .iload_n 0, 1, 0, 0),
  (1, .iconst 4, 2, 0, 4),
  (2, .invokestatic 22, 5, 0, 0),
  (5, .ireturn, 6, 0, 0)]
set_option maxRecDepth 100000 in
theorem okX11_isHand : tf_okT cX11_isHand tX11_isHand := by unfold tf_okT; decide +kernel
theorem ftX11_isHand : 1 ≤ 2 ∧ tf_okF RX11 fX11 ∧ tf_okT cX11_isHand tX11_isHand := ⟨by decide, okfX11, okX11_isHand⟩
def mX11_isHand : tf_M := (yX11_isHand, cX11_isHand, 1, (some .boolean))

def tX11_isBoard : tf_T := [(0, .iload_n 0, 1, 0, 0),
  (1, .iconst 4, 2, 0, 4),
  (2, .invokestatic 22, 5, 0, 0),
  (5, .ireturn, 6, 0, 0)]
set_option maxRecDepth 100000 in
theorem okX11_isBoard : tf_okT cX11_isBoard tX11_isBoard := by unfold tf_okT; decide +kernel
theorem ftX11_isBoard : 1 ≤ 2 ∧ tf_okF RX11 fX11 ∧ tf_okT cX11_isBoard tX11_isBoard := ⟨by decide, okfX11, okX11_isBoard⟩
def mX11_isBoard : tf_M := (yX11_isBoard, cX11_isBoard, 1, (some .boolean))

def tX11_isKey : tf_T := [(0, .iload_n 0, 1, 0, 0),
  (1, .bipush 30, 3, 0, 30),
  (3, .invokestatic 22, 6, 0, 0),
  (6, .ireturn, 7, 0, 0)]
set_option maxRecDepth 100000 in
theorem okX11_isKey : tf_okT cX11_isKey tX11_isKey := by unfold tf_okT; decide +kernel
theorem ftX11_isKey : 1 ≤ 2 ∧ tf_okF RX11 fX11 ∧ tf_okT cX11_isKey tX11_isKey := ⟨by decide, okfX11, okX11_isKey⟩
def mX11_isKey : tf_M := (yX11_isKey, cX11_isKey, 1, (some .boolean))

def tX11_isLetter : tf_T := [(0, .iload_n 0, 1, 0, 0),
  (1, .bipush 97, 3, 0, 97),
  (3, .if_icmp .lt 13, 6, 16, 0),
  (6, .iload_n 0, 7, 0, 0),
  (7, .bipush 122, 9, 0, 122),
  (9, .if_icmp .gt 7, 12, 16, 0),
  (12, .iconst 1, 13, 0, 1),
  (13, .goto 4, 16, 17, 0),
  (16, .iconst 0, 17, 0, 0),
  (17, .ireturn, 18, 0, 0)]
set_option maxRecDepth 100000 in
theorem okX11_isLetter : tf_okT cX11_isLetter tX11_isLetter := by unfold tf_okT; decide +kernel
theorem ftX11_isLetter : 1 ≤ 1 ∧ tf_okF RX11 fX11 ∧ tf_okT cX11_isLetter tX11_isLetter := ⟨by decide, okfX11, okX11_isLetter⟩
def mX11_isLetter : tf_M := (yX11_isLetter, cX11_isLetter, 1, (some .boolean))

def tX11_finger : tf_T := [(0, .iload_n 0, 1, 0, 0),
  (1, .bipush 10, 3, 0, 10),
  (3, .irem, 4, 0, 0),
  (4, .istore_n 2, 5, 0, 0),
  (5, .iload_n 1, 6, 0, 0),
  (6, .ifCond .eq 14, 9, 20, 0),
  (9, .iload_n 2, 10, 0, 0),
  (10, .iconst 5, 11, 0, 5),
  (11, .if_icmp .ge 7, 14, 18, 0),
  (14, .iconst 0, 15, 0, 0),
  (15, .goto 4, 18, 19, 0),
  (18, .iconst 4, 19, 0, 4),
  (19, .ireturn, 20, 0, 0),
  (20, .iload_n 2, 21, 0, 0),
  (21, .iconst 4, 22, 0, 4),
  (22, .if_icmp .ge 7, 25, 29, 0),
  (25, .iload_n 2, 26, 0, 0),
  (26, .goto 25, 29, 51, 0),
  (29, .iload_n 2, 30, 0, 0),
  (30, .iconst 4, 31, 0, 4),
  (31, .if_icmp .ne 7, 34, 38, 0),
  (34, .iconst 3, 35, 0, 3),
  (35, .goto 16, 38, 51, 0),
  (38, .iload_n 2, 39, 0, 0),
  (39, .bipush 7, 41, 0, 7),
  (41, .if_icmp .ge 7, 44, 48, 0),
  (44, .iconst 4, 45, 0, 4),
  (45, .goto 6, 48, 51, 0),
  (48, .iload_n 2, 49, 0, 0),
  (49, .iconst 2, 50, 0, 2),
  (50, .isub, 51, 0, 0),
  (51, .ireturn, 52, 0, 0)]
set_option maxRecDepth 100000 in
theorem okX11_finger : tf_okT cX11_finger tX11_finger := by unfold tf_okT; decide +kernel
theorem ftX11_finger : 1 ≤ 1 ∧ tf_okF RX11 fX11 ∧ tf_okT cX11_finger tX11_finger := ⟨by decide, okfX11, okX11_finger⟩
def mX11_finger : tf_M := (yX11_finger, cX11_finger, 3, (some .int))

def tX11_lawOf : tf_T := [(0, .iload_n 0, 1, 0, 0),
  (1, .iload_n 1, 2, 0, 0),
  (2, .if_icmp .ne 5, 5, 7, 0),
  (5, .iconst 2, 6, 0, 2),
  (6, .ireturn, 7, 0, 0),
  (7, .iload_n 0, 8, 0, 0),
  (8, .iload_n 2, 9, 0, 0),
  (9, .invokestatic 58, 12, 0, 0),
  (12, .istore_n 3, 13, 0, 0),
  (13, .iload_n 1, 14, 0, 0),
  (14, .iload_n 2, 15, 0, 0),
  (15, .invokestatic 58, 18, 0, 0),
  (18, .istore 4, 20, 0, 0),
  (20, .iload_n 3, 21, 0, 0),
  (21, .iload 4, 23, 0, 0),
  (23, .if_icmp .ne 7, 26, 30, 0),
  (26, .iconst 3, 27, 0, 3),
  (27, .goto 18, 30, 45, 0),
  (30, .iload_n 3, 31, 0, 0),
  (31, .iconst 4, 32, 0, 4),
  (32, .idiv, 33, 0, 0),
  (33, .iload 4, 35, 0, 0),
  (35, .iconst 4, 36, 0, 4),
  (36, .idiv, 37, 0, 0),
  (37, .if_icmp .ne 7, 40, 44, 0),
  (40, .iconst 1, 41, 0, 1),
  (41, .goto 4, 44, 45, 0),
  (44, .iconst 0, 45, 0, 0),
  (45, .ireturn, 46, 0, 0)]
set_option maxRecDepth 100000 in
theorem okX11_lawOf : tf_okT cX11_lawOf tX11_lawOf := by unfold tf_okT; decide +kernel
theorem ftX11_lawOf : 1 ≤ 2 ∧ tf_okF RX11 fX11 ∧ tf_okT cX11_lawOf tX11_lawOf := ⟨by decide, okfX11, okX11_lawOf⟩
def mX11_lawOf : tf_M := (yX11_lawOf, cX11_lawOf, 5, (some .int))

def tX11_gapOf : tf_T := [(0, .bipush 120, 2, 0, 120),
  (2, .bipush 6, 4, 0, 6),
  (4, .iload_n 1, 5, 0, 0),
  (5, .imul, 6, 0, 0),
  (6, .iadd, 7, 0, 0),
  (7, .istore 5, 9, 0, 0),
  (9, .iload_n 2, 10, 0, 0),
  (10, .bipush 10, 12, 0, 10),
  (12, .idiv, 13, 0, 0),
  (13, .iload_n 3, 14, 0, 0),
  (14, .bipush 10, 16, 0, 10),
  (16, .idiv, 17, 0, 0),
  (17, .isub, 18, 0, 0),
  (18, .invokestatic 69, 21, 0, 0),
  (21, .istore 6, 23, 0, 0),
  (23, .iload_n 2, 24, 0, 0),
  (24, .iload_n 3, 25, 0, 0),
  (25, .iload 4, 27, 0, 0),
  (27, .invokestatic 72, 30, 0, 0),
  (30, .tableswitch 95 1 3 #[72, 26, 36], 56, 0, 0),
  (56, .aload_n 0, 57, 0, 0),
  (57, .getfield 13, 60, 0, 0),
  (60, .iload 5, 62, 0, 0),
  (62, .iconst 2, 63, 0, 2),
  (63, .iadd, 64, 0, 0),
  (64, .iaload, 65, 0, 0),
  (65, .ireturn, 66, 0, 0),
  (66, .aload_n 0, 67, 0, 0),
  (67, .getfield 13, 70, 0, 0),
  (70, .iload 5, 72, 0, 0),
  (72, .iconst 3, 73, 0, 3),
  (73, .iadd, 74, 0, 0),
  (74, .iaload, 75, 0, 0),
  (75, .aload_n 0, 76, 0, 0),
  (76, .getfield 13, 79, 0, 0),
  (79, .iload 5, 81, 0, 0),
  (81, .iconst 4, 82, 0, 4),
  (82, .iadd, 83, 0, 0),
  (83, .iaload, 84, 0, 0),
  (84, .iload_n 2, 85, 0, 0),
  (85, .bipush 10, 87, 0, 10),
  (87, .irem, 88, 0, 0),
  (88, .iload_n 3, 89, 0, 0),
  (89, .bipush 10, 91, 0, 10),
  (91, .irem, 92, 0, 0),
  (92, .isub, 93, 0, 0),
  (93, .invokestatic 69, 96, 0, 0),
  (96, .iload 6, 98, 0, 0),
  (98, .iadd, 99, 0, 0),
  (99, .imul, 100, 0, 0),
  (100, .iadd, 101, 0, 0),
  (101, .ireturn, 102, 0, 0),
  (102, .aload_n 0, 103, 0, 0),
  (103, .getfield 13, 106, 0, 0),
  (106, .iload 5, 108, 0, 0),
  (108, .iconst 1, 109, 0, 1),
  (109, .iadd, 110, 0, 0),
  (110, .iaload, 111, 0, 0),
  (111, .aload_n 0, 112, 0, 0),
  (112, .getfield 13, 115, 0, 0),
  (115, .iload 5, 117, 0, 0),
  (117, .iconst 5, 118, 0, 5),
  (118, .iadd, 119, 0, 0),
  (119, .iaload, 120, 0, 0),
  (120, .iload 6, 122, 0, 0),
  (122, .imul, 123, 0, 0),
  (123, .iadd, 124, 0, 0),
  (124, .ireturn, 125, 0, 0),
  (125, .aload_n 0, 126, 0, 0),
  (126, .getfield 13, 129, 0, 0),
  (129, .iload 5, 131, 0, 0),
  (131, .iconst 0, 132, 0, 0),
  (132, .iadd, 133, 0, 0),
  (133, .iaload, 134, 0, 0),
  (134, .ireturn, 135, 0, 0)]
set_option maxRecDepth 100000 in
theorem okX11_gapOf : tf_okT cX11_gapOf tX11_gapOf := by unfold tf_okT; decide +kernel
theorem ftX11_gapOf : 1 ≤ 3 ∧ tf_okF RX11 fX11 ∧ tf_okT cX11_gapOf tX11_gapOf := ⟨by decide, okfX11, okX11_gapOf⟩
def mX11_gapOf : tf_M := (yX11_gapOf, cX11_gapOf, 7, (some .int))

def tX11_keyAt : tf_T := [(0, .iconst 0, 1, 0, 0),
  (1, .istore_n 3, 2, 0, 0),
  (2, .iload_n 3, 3, 0, 0),
  (3, .bipush 30, 5, 0, 30),
  (5, .if_icmp .ge 28, 8, 33, 0),
  (8, .aload_n 0, 9, 0, 0),
  (9, .getfield 13, 12, 0, 0),
  (12, .bipush 30, 14, 0, 30),
  (14, .iload_n 1, 15, 0, 0),
  (15, .imul, 16, 0, 0),
  (16, .iload_n 3, 17, 0, 0),
  (17, .iadd, 18, 0, 0),
  (18, .iaload, 19, 0, 0),
  (19, .iload_n 2, 20, 0, 0),
  (20, .iconst 1, 21, 0, 1),
  (21, .iadd, 22, 0, 0),
  (22, .if_icmp .ne 5, 25, 27, 0),
  (25, .iload_n 3, 26, 0, 0),
  (26, .ireturn, 27, 0, 0),
  (27, .iinc 3 1, 30, 0, 1),
  (30, .goto (-28), 33, 2, 0),
  (33, .bipush (-9), 35, 0, (-9)),
  (35, .ireturn, 36, 0, 0)]
set_option maxRecDepth 100000 in
theorem okX11_keyAt : tf_okT cX11_keyAt tX11_keyAt := by unfold tf_okT; decide +kernel
theorem ftX11_keyAt : 1 ≤ 1 ∧ tf_okF RX11 fX11 ∧ tf_okT cX11_keyAt tX11_keyAt := ⟨by decide, okfX11, okX11_keyAt⟩
def mX11_keyAt : tf_M := (yX11_keyAt, cX11_keyAt, 4, (some .int))

set_option maxRecDepth 100000 in
theorem lX11_22 : tf_okS RX11 22 2 mX11_isIn := by unfold tf_okS tf_okL; decide +kernel

set_option maxRecDepth 100000 in
theorem lX11_58 : tf_okS RX11 58 2 mX11_finger := by unfold tf_okS tf_okL; decide +kernel

set_option maxRecDepth 100000 in
theorem lX11_69 : tf_okS RX11 69 1 mX11_amount := by unfold tf_okS tf_okL; decide +kernel

set_option maxRecDepth 100000 in
theorem lX11_72 : tf_okS RX11 72 3 mX11_lawOf := by unfold tf_okS tf_okL; decide +kernel

set_option maxHeartbeats 1000000 in
theorem m_isIn {G : tf_G} {S : tf_Sg} (v n : Int32)  : tf_Fn mX11_isIn 1 0 0 G S [.int v, .int n] G S (some (.int (if ¬ v < 0 ∧ ¬ n ≤ v then 1 else 0))) := by
  refine tf_Fn_of (own := RX11) false ⟨by decide, rfl, by decide⟩ (Nat.le_of_ble_eq_true rfl) (by show (if _ then (1 : Int32) else 0) = 0 ∨ _; split; exact Or.inr rfl; exact Or.inl rfl) (fun x hx hR => ?_)
  show tf_K x 0 0 G S 0 [some (.int v), some (.int n)] []
  by_cases c1 : v < 0
  · refine tf_go hx ftX11_isIn 3 [true] 14 [some (.int v), some (.int n)] [.int 0] S rfl ⟨by decide, by decide, rfl⟩ ⟨trivial, (by first | assumption | rfl | decide | omega)⟩ ?_
    exact tf_ret ftX11_isIn hR rfl ⟨by decide, by decide⟩ rfl rfl (by rw [if_neg (by rintro ⟨h, -⟩; exact h c1)]; rfl)
  · by_cases c2 : n ≤ v
    · refine tf_go hx ftX11_isIn 6 [false, true] 14 [some (.int v), some (.int n)] [.int 0] S rfl ⟨by decide, by decide, rfl⟩ ⟨⟨trivial, (by first | assumption | rfl | decide | omega)⟩, (by first | assumption | rfl | decide | omega)⟩ ?_
      exact tf_ret ftX11_isIn hR rfl ⟨by decide, by decide⟩ rfl rfl (by rw [if_neg (by rintro ⟨-, h⟩; exact h c2)]; rfl)
    · refine tf_go hx ftX11_isIn 7 [false, false] 14 [some (.int v), some (.int n)] [.int 1] S rfl ⟨by decide, by decide, rfl⟩ ⟨⟨trivial, (by first | assumption | rfl | decide | omega)⟩, (by first | assumption | rfl | decide | omega)⟩ ?_
      exact tf_ret ftX11_isIn hR rfl ⟨by decide, by decide⟩ rfl rfl (by rw [if_pos ⟨c1, c2⟩]; rfl)

set_option maxHeartbeats 1000000 in
theorem m_within {G : tf_G} {S : tf_Sg} (v lo hi : Int32)  : tf_Fn mX11_within 1 0 0 G S [.int v, .int lo, .int hi] G S (some (.int (if ¬ lo ≤ v then (-4) else if ¬ v ≤ hi then (-6) else 0))) := by
  refine tf_Fn_of (own := RX11) false ⟨by decide, rfl, by decide⟩ (Nat.le_of_ble_eq_true rfl) trivial (fun x hx hR => ?_)
  show tf_K x 0 0 G S 0 [some (.int v), some (.int lo), some (.int hi)] []
  by_cases c1 : lo ≤ v
  · by_cases c2 : v ≤ hi
    · refine tf_go hx ftX11_within 7 [true, true] 21 [some (.int v), some (.int lo), some (.int hi)] [.int 0] S rfl ⟨by decide, by decide, rfl⟩ ⟨⟨trivial, (by first | assumption | rfl | decide | omega)⟩, (by first | assumption | rfl | decide | omega)⟩ ?_
      exact tf_ret ftX11_within hR rfl ⟨by decide, by decide⟩ rfl rfl (by rw [if_neg (fun h => h c1), if_neg (fun h => h c2)]; rfl)
    · refine tf_go hx ftX11_within 8 [true, false] 21 [some (.int v), some (.int lo), some (.int hi)] [.int (-6)] S rfl ⟨by decide, by decide, rfl⟩ ⟨⟨trivial, (by first | assumption | rfl | decide | omega)⟩, (by first | assumption | rfl | decide | omega)⟩ ?_
      exact tf_ret ftX11_within hR rfl ⟨by decide, by decide⟩ rfl rfl (by rw [if_neg (fun h => h c1), if_pos c2]; rfl)
  · refine tf_go hx ftX11_within 5 [false] 21 [some (.int v), some (.int lo), some (.int hi)] [.int (-4)] S rfl ⟨by decide, by decide, rfl⟩ ⟨trivial, (by first | assumption | rfl | decide | omega)⟩ ?_
    exact tf_ret ftX11_within hR rfl ⟨by decide, by decide⟩ rfl rfl (by rw [if_pos c1]; rfl)

set_option maxHeartbeats 1000000 in
theorem m_amount {G : tf_G} {S : tf_Sg} (v : Int32)  : tf_Fn mX11_amount 1 0 0 G S [.int v] G S (some (.int (if v < 0 then -v else v))) := by
  refine tf_Fn_of (own := RX11) false ⟨by decide, rfl, by decide⟩ (Nat.le_of_ble_eq_true rfl) trivial (fun x hx hR => ?_)
  show tf_K x 0 0 G S 0 [some (.int v)] []
  by_cases c1 : 0 ≤ v
  · refine tf_go hx ftX11_amount 3 [true] 10 [some (.int v)] [.int v] S rfl ⟨by decide, by decide, rfl⟩ ⟨trivial, (by first | assumption | rfl | decide | omega)⟩ ?_
    exact tf_ret ftX11_amount hR rfl ⟨by decide, by decide⟩ rfl rfl (by rw [if_neg (Int32.not_lt.mpr c1)]; rfl)
  · refine tf_go hx ftX11_amount 5 [false] 10 [some (.int v)] [.int (-v)] S rfl ⟨by decide, by decide, rfl⟩ ⟨trivial, (by first | assumption | rfl | decide | omega)⟩ ?_
    exact tf_ret ftX11_amount hR rfl ⟨by decide, by decide⟩ rfl rfl (by rw [if_pos (Int32.not_le.mp c1)]; rfl)

set_option maxHeartbeats 1000000 in
theorem m_isHand {G : tf_G} {S : tf_Sg} (v : Int32)  : tf_Fn mX11_isHand 2 0 0 G S [.int v] G S (some (.int (if ¬ v < 0 ∧ ¬ 4 ≤ v then 1 else 0))) := by
  refine tf_Fn_of (own := RX11) false ⟨by decide, rfl, by decide⟩ (Nat.le_of_ble_eq_true rfl) (by show (if _ then (1 : Int32) else 0) = 0 ∨ _; split; exact Or.inr rfl; exact Or.inl rfl) (fun x hx hR => ?_)
  show tf_K x 0 0 G S 0 [some (.int v)] []
  refine tf_go hx ftX11_isHand 2 [] 2 [some (.int v)] [.int 4, .int v] S rfl ⟨by decide, by decide, rfl⟩ trivial ?_
  refine tf_cS hx ftX11_isHand (nx := 5) (As := [.int v, .int 4]) (rest := []) (st2 := [.int (if ¬ v < 0 ∧ ¬ 4 ≤ v then 1 else 0)]) (m_isIn v 4) rfl lX11_22 rfl ⟨rfl, by decide, by decide, by decide, rfl, rfl⟩ ?_
  exact tf_ret ftX11_isHand hR rfl ⟨by decide, by decide⟩ rfl rfl rfl

set_option maxHeartbeats 1000000 in
theorem m_isBoard {G : tf_G} {S : tf_Sg} (v : Int32)  : tf_Fn mX11_isBoard 2 0 0 G S [.int v] G S (some (.int (if ¬ v < 0 ∧ ¬ 4 ≤ v then 1 else 0))) := by
  refine tf_Fn_of (own := RX11) false ⟨by decide, rfl, by decide⟩ (Nat.le_of_ble_eq_true rfl) (by show (if _ then (1 : Int32) else 0) = 0 ∨ _; split; exact Or.inr rfl; exact Or.inl rfl) (fun x hx hR => ?_)
  show tf_K x 0 0 G S 0 [some (.int v)] []
  refine tf_go hx ftX11_isBoard 2 [] 2 [some (.int v)] [.int 4, .int v] S rfl ⟨by decide, by decide, rfl⟩ trivial ?_
  refine tf_cS hx ftX11_isBoard (nx := 5) (As := [.int v, .int 4]) (rest := []) (st2 := [.int (if ¬ v < 0 ∧ ¬ 4 ≤ v then 1 else 0)]) (m_isIn v 4) rfl lX11_22 rfl ⟨rfl, by decide, by decide, by decide, rfl, rfl⟩ ?_
  exact tf_ret ftX11_isBoard hR rfl ⟨by decide, by decide⟩ rfl rfl rfl

set_option maxHeartbeats 1000000 in
theorem m_isKey {G : tf_G} {S : tf_Sg} (v : Int32)  : tf_Fn mX11_isKey 2 0 0 G S [.int v] G S (some (.int (if ¬ v < 0 ∧ ¬ 30 ≤ v then 1 else 0))) := by
  refine tf_Fn_of (own := RX11) false ⟨by decide, rfl, by decide⟩ (Nat.le_of_ble_eq_true rfl) (by show (if _ then (1 : Int32) else 0) = 0 ∨ _; split; exact Or.inr rfl; exact Or.inl rfl) (fun x hx hR => ?_)
  show tf_K x 0 0 G S 0 [some (.int v)] []
  refine tf_go hx ftX11_isKey 2 [] 3 [some (.int v)] [.int 30, .int v] S rfl ⟨by decide, by decide, rfl⟩ trivial ?_
  refine tf_cS hx ftX11_isKey (nx := 6) (As := [.int v, .int 30]) (rest := []) (st2 := [.int (if ¬ v < 0 ∧ ¬ 30 ≤ v then 1 else 0)]) (m_isIn v 30) rfl lX11_22 rfl ⟨rfl, by decide, by decide, by decide, rfl, rfl⟩ ?_
  exact tf_ret ftX11_isKey hR rfl ⟨by decide, by decide⟩ rfl rfl rfl

set_option maxHeartbeats 1000000 in
theorem m_isLetter {G : tf_G} {S : tf_Sg} (v : Int32)  : tf_Fn mX11_isLetter 1 0 0 G S [.int v] G S (some (.int (if ¬ v < 97 ∧ ¬ 122 < v then 1 else 0))) := by
  refine tf_Fn_of (own := RX11) false ⟨by decide, rfl, by decide⟩ (Nat.le_of_ble_eq_true rfl) (by show (if _ then (1 : Int32) else 0) = 0 ∨ _; split; exact Or.inr rfl; exact Or.inl rfl) (fun x hx hR => ?_)
  show tf_K x 0 0 G S 0 [some (.int v)] []
  by_cases c1 : v < 97
  · refine tf_go hx ftX11_isLetter 4 [true] 17 [some (.int v)] [.int 0] S rfl ⟨by decide, by decide, rfl⟩ ⟨trivial, (by first | assumption | rfl | decide | omega)⟩ ?_
    exact tf_ret ftX11_isLetter hR rfl ⟨by decide, by decide⟩ rfl rfl (by rw [if_neg (by rintro ⟨h, -⟩; exact h c1)]; rfl)
  · by_cases c2 : 122 < v
    · refine tf_go hx ftX11_isLetter 7 [false, true] 17 [some (.int v)] [.int 0] S rfl ⟨by decide, by decide, rfl⟩ ⟨⟨trivial, (by first | assumption | rfl | decide | omega)⟩, (by first | assumption | rfl | decide | omega)⟩ ?_
      exact tf_ret ftX11_isLetter hR rfl ⟨by decide, by decide⟩ rfl rfl (by rw [if_neg (by rintro ⟨-, h⟩; exact h c2)]; rfl)
    · refine tf_go hx ftX11_isLetter 8 [false, false] 17 [some (.int v)] [.int 1] S rfl ⟨by decide, by decide, rfl⟩ ⟨⟨trivial, (by first | assumption | rfl | decide | omega)⟩, (by first | assumption | rfl | decide | omega)⟩ ?_
      exact tf_ret ftX11_isLetter hR rfl ⟨by decide, by decide⟩ rfl rfl (by rw [if_pos ⟨c1, c2⟩]; rfl)

set_option maxHeartbeats 1000000 in
theorem m_finger {G : tf_G} {S : tf_Sg} (k t : Nat) (hk : k < 1000000) (ht : t < 2) : tf_Fn mX11_finger 1 0 0 G S [.int (nI k), .int (nI t)] G S (some (.int (nI (tf_fi k t)))) := by
  refine tf_Fn_of (own := RX11) false ⟨by decide, rfl, by decide⟩ (Nat.le_of_ble_eq_true rfl) trivial (fun x hx hR => ?_)
  show tf_K x 0 0 G S 0 [some (.int (nI k)), some (.int (nI t)), none] []
  unfold tf_fi at hR
  refine tf_go hx ftX11_finger 4 [] 5 [some (.int (nI k)), some (.int (nI t)), some (.int ((nI k) - (nI k) / 10 * 10))] [] S rfl ⟨by decide, by decide, rfl⟩ ⟨trivial, (by decide)⟩ ?_
  rw [show ((nI k) - (nI k) / 10 * 10) = nI (k % 10) from (tf_rem rfl (rfl : (10 : Int32) = nI 10) (by omega) (by decide) (by decide))]
  by_cases c1 : t = 0
  · by_cases c2 : k % 10 < 4
    · refine tf_go hx ftX11_finger 7 [true, false] 51 [some (.int (nI k)), some (.int (nI t)), some (.int (nI (k % 10)))] [.int (nI (k % 10))] S rfl ⟨by decide, by decide, rfl⟩ ⟨⟨trivial, (tf_eqT (a := t) (b := 0) rfl (rfl : (0 : Int32) = nI 0) (by omega))⟩, (tf_leF (a := 4) (b := (k % 10)) (rfl : (4 : Int32) = nI 4) rfl (by omega) (by omega) (by omega))⟩ ?_
      exact tf_ret ftX11_finger hR rfl ⟨by decide, by decide⟩ rfl rfl (by rw [if_neg (fun h => h c1), if_pos c2]; rfl)
    · by_cases c3 : k % 10 = 4
      · refine tf_go hx ftX11_finger 10 [true, true, false] 51 [some (.int (nI k)), some (.int (nI t)), some (.int (nI (k % 10)))] [.int 3] S rfl ⟨by decide, by decide, rfl⟩ ⟨⟨⟨trivial, (tf_eqT (a := t) (b := 0) rfl (rfl : (0 : Int32) = nI 0) (by omega))⟩, (tf_leT (a := 4) (b := (k % 10)) (rfl : (4 : Int32) = nI 4) rfl (by omega) (by omega) (by omega))⟩, (tf_neF (a := (k % 10)) (b := 4) rfl (rfl : (4 : Int32) = nI 4) (by omega))⟩ ?_
        exact tf_ret ftX11_finger hR rfl ⟨by decide, by decide⟩ rfl rfl (by rw [if_neg (fun h => h c1), if_neg c2, if_pos c3]; rfl)
      · by_cases c4 : k % 10 < 7
        · refine tf_go hx ftX11_finger 13 [true, true, true, false] 51 [some (.int (nI k)), some (.int (nI t)), some (.int (nI (k % 10)))] [.int 4] S rfl ⟨by decide, by decide, rfl⟩ ⟨⟨⟨⟨trivial, (tf_eqT (a := t) (b := 0) rfl (rfl : (0 : Int32) = nI 0) (by omega))⟩, (tf_leT (a := 4) (b := (k % 10)) (rfl : (4 : Int32) = nI 4) rfl (by omega) (by omega) (by omega))⟩, (tf_eqF (a := (k % 10)) (b := 4) rfl (rfl : (4 : Int32) = nI 4) (by omega) (by omega) (by omega))⟩, (tf_leF (a := 7) (b := (k % 10)) (rfl : (7 : Int32) = nI 7) rfl (by omega) (by omega) (by omega))⟩ ?_
          exact tf_ret ftX11_finger hR rfl ⟨by decide, by decide⟩ rfl rfl (by rw [if_neg (fun h => h c1), if_neg c2, if_neg c3, if_pos c4]; rfl)
        · refine tf_go hx ftX11_finger 14 [true, true, true, true] 51 [some (.int (nI k)), some (.int (nI t)), some (.int (nI (k % 10)))] [.int ((nI (k % 10)) - 2)] S rfl ⟨by decide, by decide, rfl⟩ ⟨⟨⟨⟨trivial, (tf_eqT (a := t) (b := 0) rfl (rfl : (0 : Int32) = nI 0) (by omega))⟩, (tf_leT (a := 4) (b := (k % 10)) (rfl : (4 : Int32) = nI 4) rfl (by omega) (by omega) (by omega))⟩, (tf_eqF (a := (k % 10)) (b := 4) rfl (rfl : (4 : Int32) = nI 4) (by omega) (by omega) (by omega))⟩, (tf_leT (a := 7) (b := (k % 10)) (rfl : (7 : Int32) = nI 7) rfl (by omega) (by omega) (by omega))⟩ ?_
          exact tf_ret ftX11_finger hR rfl ⟨by decide, by decide⟩ rfl rfl (by rw [if_neg (fun h => h c1), if_neg c2, if_neg c3, if_neg c4, show nI (k % 10) - 2 = nI (k % 10 - 2) from tf_sub (b := 2) rfl rfl (by omega)]; rfl)
  · by_cases c2 : k % 10 < 5
    · refine tf_go hx ftX11_finger 7 [false, false] 19 [some (.int (nI k)), some (.int (nI t)), some (.int (nI (k % 10)))] [.int 0] S rfl ⟨by decide, by decide, rfl⟩ ⟨⟨trivial, (tf_eqF (a := t) (b := 0) rfl (rfl : (0 : Int32) = nI 0) (by omega) (by omega) (by omega))⟩, (tf_leF (a := 5) (b := (k % 10)) (rfl : (5 : Int32) = nI 5) rfl (by omega) (by omega) (by omega))⟩ ?_
      exact tf_ret ftX11_finger hR rfl ⟨by decide, by decide⟩ rfl rfl (by rw [if_pos c1, if_pos c2]; rfl)
    · refine tf_go hx ftX11_finger 6 [false, true] 19 [some (.int (nI k)), some (.int (nI t)), some (.int (nI (k % 10)))] [.int 4] S rfl ⟨by decide, by decide, rfl⟩ ⟨⟨trivial, (tf_eqF (a := t) (b := 0) rfl (rfl : (0 : Int32) = nI 0) (by omega) (by omega) (by omega))⟩, (tf_leT (a := 5) (b := (k % 10)) (rfl : (5 : Int32) = nI 5) rfl (by omega) (by omega) (by omega))⟩ ?_
      exact tf_ret ftX11_finger hR rfl ⟨by decide, by decide⟩ rfl rfl (by rw [if_pos c1, if_neg c2]; rfl)

set_option maxHeartbeats 1000000 in
theorem m_lawOf {G : tf_G} {S : tf_Sg} (p q t : Nat) (hp : p < 1000000) (hq : q < 1000000) (ht : t < 2) : tf_Fn mX11_lawOf 2 0 0 G S [.int (nI p), .int (nI q), .int (nI t)] G S (some (.int (nI (tf_la p q t)))) := by
  refine tf_Fn_of (own := RX11) false ⟨by decide, rfl, by decide⟩ (Nat.le_of_ble_eq_true rfl) trivial (fun x hx hR => ?_)
  show tf_K x 0 0 G S 0 [some (.int (nI p)), some (.int (nI q)), some (.int (nI t)), none, none] []
  unfold tf_la at hR
  by_cases c1 : p = q
  · refine tf_go hx ftX11_lawOf 4 [false] 6 [some (.int (nI p)), some (.int (nI q)), some (.int (nI t)), none, none] [.int 2] S rfl ⟨by decide, by decide, rfl⟩ ⟨trivial, (tf_neF (a := p) (b := q) rfl rfl (by omega))⟩ ?_
    exact tf_ret ftX11_lawOf hR rfl ⟨by decide, by decide⟩ rfl rfl (by rw [if_pos c1]; rfl)
  · refine tf_go hx ftX11_lawOf 5 [true] 9 [some (.int (nI p)), some (.int (nI q)), some (.int (nI t)), none, none] [.int (nI t), .int (nI p)] S rfl ⟨by decide, by decide, rfl⟩ ⟨trivial, (tf_eqF (a := p) (b := q) rfl rfl (by omega) (by omega) (by omega))⟩ ?_
    refine tf_cS hx ftX11_lawOf (nx := 12) (As := [.int (nI p), .int (nI t)]) (rest := []) (st2 := [.int (nI (tf_fi p t))]) (m_finger p t hp ht) rfl lX11_58 rfl ⟨rfl, by decide, by decide, by decide, rfl, rfl⟩ ?_
    refine tf_go hx ftX11_lawOf 3 [] 15 [some (.int (nI p)), some (.int (nI q)), some (.int (nI t)), some (.int (nI (tf_fi p t))), none] [.int (nI t), .int (nI q)] S rfl ⟨by decide, by decide, rfl⟩ trivial ?_
    refine tf_cS hx ftX11_lawOf (nx := 18) (As := [.int (nI q), .int (nI t)]) (rest := []) (st2 := [.int (nI (tf_fi q t))]) (m_finger q t hq ht) rfl lX11_58 rfl ⟨rfl, by decide, by decide, by decide, rfl, rfl⟩ ?_
    have g1 := tf_fi_le p t
    have g2 := tf_fi_le q t
    by_cases c2 : tf_fi p t = tf_fi q t
    · refine tf_go hx ftX11_lawOf 6 [false] 45 [some (.int (nI p)), some (.int (nI q)), some (.int (nI t)), some (.int (nI (tf_fi p t))), some (.int (nI (tf_fi q t)))] [.int 3] S rfl ⟨by decide, by decide, rfl⟩ ⟨trivial, (tf_neF (a := (tf_fi p t)) (b := (tf_fi q t)) rfl rfl (by omega))⟩ ?_
      exact tf_ret ftX11_lawOf hR rfl ⟨by decide, by decide⟩ rfl rfl (by rw [if_neg c1, if_pos c2]; rfl)
    · refine tf_go hx ftX11_lawOf 4 [true] 30 [some (.int (nI p)), some (.int (nI q)), some (.int (nI t)), some (.int (nI (tf_fi p t))), some (.int (nI (tf_fi q t)))] [] S rfl ⟨by decide, by decide, rfl⟩ ⟨trivial, (tf_eqF (a := (tf_fi p t)) (b := (tf_fi q t)) rfl rfl (by omega) (by omega) (by omega))⟩ ?_
      refine tf_go hx ftX11_lawOf 4 [] 35 [some (.int (nI p)), some (.int (nI q)), some (.int (nI t)), some (.int (nI (tf_fi p t))), some (.int (nI (tf_fi q t)))] [.int (nI (tf_fi q t)), .int ((nI (tf_fi p t)) / 4)] S rfl ⟨by decide, by decide, rfl⟩ ⟨trivial, (by decide)⟩ ?_
      rw [show ((nI (tf_fi p t)) / 4) = nI ((tf_fi p t) / 4) from (tf_div rfl (rfl : (4 : Int32) = nI 4) (by omega) (by decide) (by decide))]
      by_cases c3 : tf_fi p t / 4 = tf_fi q t / 4
      · refine tf_go hx ftX11_lawOf 5 [false] 45 [some (.int (nI p)), some (.int (nI q)), some (.int (nI t)), some (.int (nI (tf_fi p t))), some (.int (nI (tf_fi q t)))] [.int 1] S rfl ⟨by decide, by decide, rfl⟩ ⟨⟨trivial, (by decide)⟩, (tf_neF (a := ((tf_fi p t) / 4)) (b := ((tf_fi q t) / 4)) rfl (tf_div rfl (rfl : (4 : Int32) = nI 4) (by omega) (by decide) (by decide)) (by omega))⟩ ?_
        exact tf_ret ftX11_lawOf hR rfl ⟨by decide, by decide⟩ rfl rfl (by rw [if_neg c1, if_neg c2, if_pos c3]; rfl)
      · refine tf_go hx ftX11_lawOf 4 [true] 45 [some (.int (nI p)), some (.int (nI q)), some (.int (nI t)), some (.int (nI (tf_fi p t))), some (.int (nI (tf_fi q t)))] [.int 0] S rfl ⟨by decide, by decide, rfl⟩ ⟨⟨trivial, (by decide)⟩, (tf_eqF (a := ((tf_fi p t) / 4)) (b := ((tf_fi q t) / 4)) rfl (tf_div rfl (rfl : (4 : Int32) = nI 4) (by omega) (by decide) (by decide)) (by omega) (by omega) (by omega))⟩ ?_
        exact tf_ret ftX11_lawOf hR rfl ⟨by decide, by decide⟩ rfl rfl (by rw [if_neg c1, if_neg c2, if_neg c3]; rfl)

set_option maxHeartbeats 1000000 in
theorem m_gapOf {G : tf_G} {S : tf_Sg} {o : Nat} {f : Nat → Nat} (h p q t : Nat) (ho : tf_mo G o) (hf : tf_sf G S o f) (hh : h < 4) (hp : p < 30) (hq : q < 30) (ht : t < 2) : tf_Fn mX11_gapOf 3 0 0 G S [.ref o, .int (nI h), .int (nI p), .int (nI q), .int (nI t)] G S (some (.int (nI (tf_ga f h p q t)))) := by
  obtain ⟨h1, ⟨r0, t0, n0⟩, ⟨r1, t1, n1⟩, ⟨r2, t2, n2⟩, ⟨r4, t4, n4⟩⟩ := id ho
  obtain ⟨hs, hb⟩ := id hf
  refine tf_Fn_of (own := RX11) false ⟨by decide, rfl, by decide⟩ (Nat.le_of_ble_eq_true rfl) trivial (fun x hx hR => ?_)
  show tf_K x 0 0 G S 0 [some (.ref o), some (.int (nI h)), some (.int (nI p)), some (.int (nI q)), some (.int (nI t)), none, none] []
  unfold tf_ga at hR
  refine tf_go hx ftX11_gapOf 13 [] 18 [some (.ref o), some (.int (nI h)), some (.int (nI p)), some (.int (nI q)), some (.int (nI t)), some (.int (120 + (6 * (nI h)))), none] [.int (((nI p) / 10) - ((nI q) / 10))] S rfl ⟨by decide, by decide, rfl⟩ ⟨⟨trivial, (by decide)⟩, (by decide)⟩ ?_
  rw [show ((nI p) / 10) = nI (p / 10) from (tf_div rfl (rfl : (10 : Int32) = nI 10) (by omega) (by decide) (by decide))]
  rw [show ((nI q) / 10) = nI (q / 10) from (tf_div rfl (rfl : (10 : Int32) = nI 10) (by omega) (by decide) (by decide))]
  rw [show (120 + (6 * (nI h))) = nI (120 + (6 * h)) from (tf_add (rfl : (120 : Int32) = nI 120) (tf_mul (rfl : (6 : Int32) = nI 6) rfl))]
  refine tf_cS hx ftX11_gapOf (nx := 21) (As := [.int ((nI (p / 10)) - (nI (q / 10)))]) (rest := []) (st2 := [.int (nI (tf_di (p / 10) (q / 10)))]) ((by have h := m_amount (G := G) (S := S) (nI (p / 10) - nI (q / 10)); rw [tf_amt (by omega) (by omega)] at h; exact h)) rfl lX11_69 rfl ⟨rfl, by decide, by decide, by decide, rfl, rfl⟩ ?_
  have d1 := tf_di_le (show p / 10 < 3 by omega) (show q / 10 < 3 by omega)
  have d2 := tf_di_le (show p % 10 < 10 by omega) (show q % 10 < 10 by omega)
  refine tf_go hx ftX11_gapOf 4 [] 27 [some (.ref o), some (.int (nI h)), some (.int (nI p)), some (.int (nI q)), some (.int (nI t)), some (.int (nI (120 + (6 * h)))), some (.int (nI (tf_di (p / 10) (q / 10))))] [.int (nI t), .int (nI q), .int (nI p)] S rfl ⟨by decide, by decide, rfl⟩ trivial ?_
  refine tf_cS hx ftX11_gapOf (nx := 30) (As := [.int (nI p), .int (nI q), .int (nI t)]) (rest := []) (st2 := [.int (nI (tf_la p q t))]) (m_lawOf p q t (by omega) (by omega) ht) rfl lX11_72 rfl ⟨rfl, by decide, by decide, by decide, rfl, rfl⟩ ?_
  have l1 := tf_la_le p q t
  by_cases c2 : tf_la p q t = 2
  · rw [c2]
    refine tf_swI hx ftX11_gapOf 56 rfl ⟨by decide, by decide, rfl, by decide⟩ ?_
    refine tf_go hx ftX11_gapOf 6 [] 65 [some (.ref o), some (.int (nI h)), some (.int (nI p)), some (.int (nI q)), some (.int (nI t)), some (.int (nI (120 + (6 * h)))), some (.int (nI (tf_di (p / 10) (q / 10))))] [.int (S (tf_rf G o 1) (Int32.toNatClampNeg ((nI (120 + (6 * h))) + 2)))] S rfl ⟨by decide, by decide, rfl⟩ ⟨⟨trivial, ⟨by first | assumption | rfl | decide | omega, by first | assumption | rfl | decide | omega⟩⟩, ⟨Or.inl (by first | assumption | rfl | decide | omega), by first | assumption | exact tf_in (n := ((120 + (6 * h)) + 2)) (tf_add rfl (rfl : (2 : Int32) = nI 2)) (by first | assumption | rfl) (by omega) (by decide)⟩⟩ ?_
    rw [show (S (tf_rf G o 1) (Int32.toNatClampNeg ((nI (120 + (6 * h))) + 2))) = nI (f ((120 + (6 * h)) + 2)) from (tf_rd hs (tf_add rfl (rfl : (2 : Int32) = nI 2)) (by omega))]
    exact tf_ret ftX11_gapOf hR rfl ⟨by decide, by decide⟩ rfl rfl (by rw [if_pos c2]; rfl)
  · by_cases c3 : tf_la p q t = 3
    · rw [c3]
      refine tf_swI hx ftX11_gapOf 66 rfl ⟨by decide, by decide, rfl, by decide⟩ ?_
      refine tf_go hx ftX11_gapOf 15 [] 88 [some (.ref o), some (.int (nI h)), some (.int (nI p)), some (.int (nI q)), some (.int (nI t)), some (.int (nI (120 + (6 * h)))), some (.int (nI (tf_di (p / 10) (q / 10))))] [.int ((nI p) - (nI p) / 10 * 10), .int (S (tf_rf G o 1) (Int32.toNatClampNeg ((nI (120 + (6 * h))) + 4))), .int (S (tf_rf G o 1) (Int32.toNatClampNeg ((nI (120 + (6 * h))) + 3)))] S rfl ⟨by decide, by decide, rfl⟩ ⟨⟨⟨⟨⟨trivial, ⟨by first | assumption | rfl | decide | omega, by first | assumption | rfl | decide | omega⟩⟩, ⟨Or.inl (by first | assumption | rfl | decide | omega), by first | assumption | exact tf_in (n := ((120 + (6 * h)) + 3)) (tf_add rfl (rfl : (3 : Int32) = nI 3)) (by first | assumption | rfl) (by omega) (by decide)⟩⟩, ⟨by first | assumption | rfl | decide | omega, by first | assumption | rfl | decide | omega⟩⟩, ⟨Or.inl (by first | assumption | rfl | decide | omega), by first | assumption | exact tf_in (n := ((120 + (6 * h)) + 4)) (tf_add rfl (rfl : (4 : Int32) = nI 4)) (by first | assumption | rfl) (by omega) (by decide)⟩⟩, (by decide)⟩ ?_
      rw [show ((nI p) - (nI p) / 10 * 10) = nI (p % 10) from (tf_rem rfl (rfl : (10 : Int32) = nI 10) (by omega) (by decide) (by decide))]
      rw [show (S (tf_rf G o 1) (Int32.toNatClampNeg ((nI (120 + (6 * h))) + 4))) = nI (f ((120 + (6 * h)) + 4)) from (tf_rd hs (tf_add rfl (rfl : (4 : Int32) = nI 4)) (by omega))]
      rw [show (S (tf_rf G o 1) (Int32.toNatClampNeg ((nI (120 + (6 * h))) + 3))) = nI (f ((120 + (6 * h)) + 3)) from (tf_rd hs (tf_add rfl (rfl : (3 : Int32) = nI 3)) (by omega))]
      refine tf_go hx ftX11_gapOf 4 [] 93 [some (.ref o), some (.int (nI h)), some (.int (nI p)), some (.int (nI q)), some (.int (nI t)), some (.int (nI (120 + (6 * h)))), some (.int (nI (tf_di (p / 10) (q / 10))))] [.int ((nI (p % 10)) - ((nI q) - (nI q) / 10 * 10)), .int (nI (f ((120 + (6 * h)) + 4))), .int (nI (f ((120 + (6 * h)) + 3)))] S rfl ⟨by decide, by decide, rfl⟩ ⟨trivial, (by decide)⟩ ?_
      rw [show ((nI q) - (nI q) / 10 * 10) = nI (q % 10) from (tf_rem rfl (rfl : (10 : Int32) = nI 10) (by omega) (by decide) (by decide))]
      refine tf_cS hx ftX11_gapOf (nx := 96) (As := [.int ((nI (p % 10)) - (nI (q % 10)))]) (rest := [.int (nI (f ((120 + (6 * h)) + 4))), .int (nI (f ((120 + (6 * h)) + 3)))]) (st2 := [.int (nI (tf_di (p % 10) (q % 10))), .int (nI (f ((120 + (6 * h)) + 4))), .int (nI (f ((120 + (6 * h)) + 3)))]) ((by have h := m_amount (G := G) (S := S) (nI (p % 10) - nI (q % 10)); rw [tf_amt (by omega) (by omega)] at h; exact h)) rfl lX11_69 rfl ⟨rfl, by decide, by decide, by decide, rfl, rfl⟩ ?_
      refine tf_go hx ftX11_gapOf 4 [] 101 [some (.ref o), some (.int (nI h)), some (.int (nI p)), some (.int (nI q)), some (.int (nI t)), some (.int (nI (120 + (6 * h)))), some (.int (nI (tf_di (p / 10) (q / 10))))] [.int ((nI (f ((120 + (6 * h)) + 3))) + ((nI (f ((120 + (6 * h)) + 4))) * ((nI (tf_di (p % 10) (q % 10))) + (nI (tf_di (p / 10) (q / 10))))))] S rfl ⟨by decide, by decide, rfl⟩ trivial ?_
      rw [show ((nI (f ((120 + (6 * h)) + 3))) + ((nI (f ((120 + (6 * h)) + 4))) * ((nI (tf_di (p % 10) (q % 10))) + (nI (tf_di (p / 10) (q / 10)))))) = nI ((f ((120 + (6 * h)) + 3)) + ((f ((120 + (6 * h)) + 4)) * ((tf_di (p % 10) (q % 10)) + (tf_di (p / 10) (q / 10))))) from (tf_add rfl (tf_mul rfl (tf_add rfl rfl)))]
      exact tf_ret ftX11_gapOf hR rfl ⟨by decide, by decide⟩ rfl rfl (by rw [if_neg c2, if_pos c3]; rfl)
    · by_cases c1 : tf_la p q t = 1
      · rw [c1]
        refine tf_swI hx ftX11_gapOf 102 rfl ⟨by decide, by decide, rfl, by decide⟩ ?_
        refine tf_go hx ftX11_gapOf 15 [] 124 [some (.ref o), some (.int (nI h)), some (.int (nI p)), some (.int (nI q)), some (.int (nI t)), some (.int (nI (120 + (6 * h)))), some (.int (nI (tf_di (p / 10) (q / 10))))] [.int ((S (tf_rf G o 1) (Int32.toNatClampNeg ((nI (120 + (6 * h))) + 1))) + ((S (tf_rf G o 1) (Int32.toNatClampNeg ((nI (120 + (6 * h))) + 5))) * (nI (tf_di (p / 10) (q / 10)))))] S rfl ⟨by decide, by decide, rfl⟩ ⟨⟨⟨⟨trivial, ⟨by first | assumption | rfl | decide | omega, by first | assumption | rfl | decide | omega⟩⟩, ⟨Or.inl (by first | assumption | rfl | decide | omega), by first | assumption | exact tf_in (n := ((120 + (6 * h)) + 1)) (tf_add rfl (rfl : (1 : Int32) = nI 1)) (by first | assumption | rfl) (by omega) (by decide)⟩⟩, ⟨by first | assumption | rfl | decide | omega, by first | assumption | rfl | decide | omega⟩⟩, ⟨Or.inl (by first | assumption | rfl | decide | omega), by first | assumption | exact tf_in (n := ((120 + (6 * h)) + 5)) (tf_add rfl (rfl : (5 : Int32) = nI 5)) (by first | assumption | rfl) (by omega) (by decide)⟩⟩ ?_
        rw [show ((S (tf_rf G o 1) (Int32.toNatClampNeg ((nI (120 + (6 * h))) + 1))) + ((S (tf_rf G o 1) (Int32.toNatClampNeg ((nI (120 + (6 * h))) + 5))) * (nI (tf_di (p / 10) (q / 10))))) = nI ((f ((120 + (6 * h)) + 1)) + ((f ((120 + (6 * h)) + 5)) * (tf_di (p / 10) (q / 10)))) from (tf_add (tf_rd hs (tf_add rfl (rfl : (1 : Int32) = nI 1)) (by omega)) (tf_mul (tf_rd hs (tf_add rfl (rfl : (5 : Int32) = nI 5)) (by omega)) rfl))]
        exact tf_ret ftX11_gapOf hR rfl ⟨by decide, by decide⟩ rfl rfl (by rw [if_neg c2, if_neg c3, if_pos c1]; rfl)
      · rw [show tf_la p q t = 0 by omega]
        refine tf_swO hx ftX11_gapOf 125 rfl ⟨Or.inl (by decide), by decide⟩ ?_
        refine tf_go hx ftX11_gapOf 6 [] 134 [some (.ref o), some (.int (nI h)), some (.int (nI p)), some (.int (nI q)), some (.int (nI t)), some (.int (nI (120 + (6 * h)))), some (.int (nI (tf_di (p / 10) (q / 10))))] [.int (S (tf_rf G o 1) (Int32.toNatClampNeg ((nI (120 + (6 * h))) + 0)))] S rfl ⟨by decide, by decide, rfl⟩ ⟨⟨trivial, ⟨by first | assumption | rfl | decide | omega, by first | assumption | rfl | decide | omega⟩⟩, ⟨Or.inl (by first | assumption | rfl | decide | omega), by first | assumption | exact tf_in (n := ((120 + (6 * h)) + 0)) (tf_add rfl (rfl : (0 : Int32) = nI 0)) (by first | assumption | rfl) (by omega) (by decide)⟩⟩ ?_
        rw [show (S (tf_rf G o 1) (Int32.toNatClampNeg ((nI (120 + (6 * h))) + 0))) = nI (f ((120 + (6 * h)) + 0)) from (tf_rd hs (tf_add rfl (rfl : (0 : Int32) = nI 0)) (by omega))]
        exact tf_ret ftX11_gapOf hR rfl ⟨by decide, by decide⟩ rfl rfl (by rw [if_neg c2, if_neg c3, if_neg c1]; rfl)

set_option maxHeartbeats 1000000 in
theorem m_keyAt {G : tf_G} {S : tf_Sg} {o : Nat} {f : Nat → Nat} (b l : Nat) (ho : tf_mo G o) (hf : tf_sf G S o f) (hbb : b < 4) (hl : l < 30) : tf_Fn mX11_keyAt 1 0 0 G S [.ref o, .int (nI b), .int (nI l)] G S (some (.int (tf_on 30 (tf_ke f b l)))) := by
  obtain ⟨h1, ⟨r0, t0, n0⟩, ⟨r1, t1, n1⟩, ⟨r2, t2, n2⟩, ⟨r4, t4, n4⟩⟩ := id ho
  obtain ⟨hs, hb⟩ := id hf
  refine tf_Fn_of (own := RX11) false ⟨by decide, rfl, by decide⟩ (Nat.le_of_ble_eq_true rfl) trivial (fun x hx hR => ?_)
  show tf_K x 0 0 G S 0 [some (.ref o), some (.int (nI b)), some (.int (nI l)), none] []
  unfold tf_ke tf_on at hR
  refine tf_go hx ftX11_keyAt 2 [] 2 [some (.ref o), some (.int (nI b)), some (.int (nI l)), some (.int 0)] [] S rfl ⟨by decide, by decide, rfl⟩ trivial ?_
  have loop : ∀ (m k : Nat), k + m = 30 → (tf_fst (fun k => f (30 * b + k) == l + 1) m k = tf_fst (fun k => f (30 * b + k) == l + 1) 30 0) → tf_K x 0 0 G S 2 [some (.ref o), some (.int (nI b)), some (.int (nI l)), some (.int (nI k))] [] := by
    intro m
    induction m with
    | zero =>
      intro k hk he
      have hk2 : k = 30 := by omega
      refine tf_go hx ftX11_keyAt 4 [true] 35 [some (.ref o), some (.int (nI b)), some (.int (nI l)), some (.int (nI k))] [.int (-9)] S rfl ⟨by decide, by decide, rfl⟩ ⟨trivial, (tf_leT (a := 30) (b := k) (rfl : (30 : Int32) = nI 30) rfl (by omega) (by omega) (by omega))⟩ ?_
      exact tf_ret ftX11_keyAt hR rfl ⟨by decide, by decide⟩ rfl rfl (by rw [← he, tf_fst_0, if_neg (by omega)]; rfl)
    | succ m ih =>
      intro k hk he
      refine tf_go hx ftX11_keyAt 9 [false] 17 [some (.ref o), some (.int (nI b)), some (.int (nI l)), some (.int (nI k))] [.int (nI k), .int (30 * (nI b)), .ref (tf_rf G o 1)] S rfl ⟨by decide, by decide, rfl⟩ ⟨⟨trivial, (tf_leF (a := 30) (b := k) (rfl : (30 : Int32) = nI 30) rfl (by omega) (by omega) (by omega))⟩, ⟨by first | assumption | rfl | decide | omega, by first | assumption | rfl | decide | omega⟩⟩ ?_
      rw [show (30 * (nI b)) = nI (30 * b) from (tf_mul (rfl : (30 : Int32) = nI 30) rfl)]
      refine tf_go hx ftX11_keyAt 4 [] 21 [some (.ref o), some (.int (nI b)), some (.int (nI l)), some (.int (nI k))] [.int 1, .int (nI l), .int (S (tf_rf G o 1) (Int32.toNatClampNeg ((nI (30 * b)) + (nI k))))] S rfl ⟨by decide, by decide, rfl⟩ ⟨trivial, ⟨Or.inl (by first | assumption | rfl | decide | omega), by first | assumption | exact tf_in (n := ((30 * b) + k)) (tf_add rfl rfl) (by first | assumption | rfl) (by omega) (by decide)⟩⟩ ?_
      rw [show (S (tf_rf G o 1) (Int32.toNatClampNeg ((nI (30 * b)) + (nI k)))) = nI (f ((30 * b) + k)) from (tf_rd hs (tf_add rfl rfl) (by omega))]
      by_cases c1 : f (30 * b + k) = l + 1
      · refine tf_go hx ftX11_keyAt 3 [false] 26 [some (.ref o), some (.int (nI b)), some (.int (nI l)), some (.int (nI k))] [.int (nI k)] S rfl ⟨by decide, by decide, rfl⟩ ⟨trivial, (tf_neF (a := (f ((30 * b) + k))) (b := (l + 1)) rfl (tf_add rfl (rfl : (1 : Int32) = nI 1)) (by have := hb ((30 * b) + k); omega))⟩ ?_
        exact tf_ret ftX11_keyAt hR rfl ⟨by decide, by decide⟩ rfl rfl (by rw [← he, tf_fst_y (by simpa using c1), if_pos (by omega)]; rfl)
      · refine tf_go hx ftX11_keyAt 4 [true] 2 [some (.ref o), some (.int (nI b)), some (.int (nI l)), some (.int ((nI k) + 1))] [] S rfl ⟨by decide, by decide, rfl⟩ ⟨trivial, (tf_eqF (a := (f ((30 * b) + k))) (b := (l + 1)) rfl (tf_add rfl (rfl : (1 : Int32) = nI 1)) (by have := hb ((30 * b) + k); omega) (by have := hb ((30 * b) + k); omega) (by have := hb ((30 * b) + k); omega))⟩ ?_
        rw [show ((nI k) + 1) = nI (k + 1) from (tf_add rfl (rfl : (1 : Int32) = nI 1))]
        exact ih (k + 1) (by omega) (by rw [← he, tf_fst_n (by simpa using c1)])
  exact loop 30 0 rfl rfl

