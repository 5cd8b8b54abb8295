def fX10 : tf_F := [(1, 102, 0), (10, 7, 0), (16, 7, 1), (24, 7, 2), (31, 7, 3), (38, 7, 4), (42, 7, 5), (46, 7, 6), (71, 4, 0), (87, 4, 2), (90, 4, 3), (97, 4, 4), (125, 4, 1), (175, 101, 0), (180, 4, 5)]
set_option maxRecDepth 100000 in
theorem okfX10 : tf_okF RX10 fX10 := by unfold tf_okF; decide +kernel

def fX4 : tf_F := []
set_option maxRecDepth 100000 in
theorem okfX4 : tf_okF RX4 fX4 := by unfold tf_okF; decide +kernel

def tX10_noKey : tf_T := [(0, .iload_n 0, 1, 0, 0),
  (1, .ifCond .lt 9, 4, 10, 0),
  (4, .iload_n 0, 5, 0, 0),
  (5, .bipush 30, 7, 0, 30),
  (7, .if_icmp .lt 7, 10, 14, 0),
  (10, .iconst 1, 11, 0, 1),
  (11, .goto 4, 14, 15, 0),
  (14, .iconst 0, 15, 0, 0),
  (15, .ireturn, 16, 0, 0)]
set_option maxRecDepth 100000 in
theorem okX10_noKey : tf_okT cX10_noKey tX10_noKey := by unfold tf_okT; decide +kernel
theorem ftX10_noKey : 1 ≤ 1 ∧ tf_okF RX10 fX10 ∧ tf_okT cX10_noKey tX10_noKey := ⟨by decide, okfX10, okX10_noKey⟩
def mX10_noKey : tf_M := (yX10_noKey, cX10_noKey, 1, (some .boolean))

set_option maxHeartbeats 1000000 in
theorem c_noKey {G : tf_G} {S : tf_Sg} (v : Int32)  : tf_Fn mX10_noKey 1 0 0 G S [.int v] G S (some (.int (if ¬ v < 0 ∧ ¬ 30 ≤ v then 0 else 1))) := by
  refine tf_Fn_of (own := RX10) false ⟨by decide, rfl, by decide⟩ (Nat.le_of_ble_eq_true rfl) (by show (if _ then (0 : Int32) else 1) = 0 ∨ _; split; exact Or.inl rfl; exact Or.inr rfl) (fun x hx hR => ?_)
  show tf_K x 0 0 G S 0 [some (.int v)] []
  by_cases c1 : v < 0
  · refine tf_go hx ftX10_noKey 4 [true] 15 [some (.int v)] [.int 1] S rfl ⟨by decide, by decide, rfl⟩ ⟨trivial, (by first | assumption | rfl | decide | omega)⟩ ?_
    exact tf_ret ftX10_noKey hR rfl ⟨by decide, by decide⟩ rfl rfl (by rw [if_neg (by rintro ⟨h, -⟩; exact h c1)]; rfl)
  · by_cases c2 : v < 30
    · refine tf_go hx ftX10_noKey 6 [false, true] 15 [some (.int v)] [.int 0] S rfl ⟨by decide, by decide, rfl⟩ ⟨⟨trivial, (by first | assumption | rfl | decide | omega)⟩, (by first | assumption | rfl | decide | omega)⟩ ?_
      exact tf_ret ftX10_noKey hR rfl ⟨by decide, by decide⟩ rfl rfl (by rw [if_pos ⟨c1, Int32.not_le.mpr c2⟩]; rfl)
    · refine tf_go hx ftX10_noKey 7 [false, false] 15 [some (.int v)] [.int 1] S rfl ⟨by decide, by decide, rfl⟩ ⟨⟨trivial, (by first | assumption | rfl | decide | omega)⟩, (by first | assumption | rfl | decide | omega)⟩ ?_
      exact tf_ret ftX10_noKey hR rfl ⟨by decide, by decide⟩ rfl rfl (by rw [if_neg (by rintro ⟨-, h⟩; exact h (Int32.not_lt.mp c2))]; rfl)

def tX10_noHand : tf_T := [(0, .iload_n 0, 1, 0, 0),
  (1, .ifCond .lt 8, 4, 9, 0),
  (4, .iload_n 0, 5, 0, 0),
  (5, .iconst 4, 6, 0, 4),
  (6, .if_icmp .lt 7, 9, 13, 0),
  (9, .iconst 1, 10, 0, 1),
  (10, .goto 4, 13, 14, 0),
  (13, .iconst 0, 14, 0, 0),
  (14, .ireturn, 15, 0, 0)]
set_option maxRecDepth 100000 in
theorem okX10_noHand : tf_okT cX10_noHand tX10_noHand := by unfold tf_okT; decide +kernel
theorem ftX10_noHand : 1 ≤ 1 ∧ tf_okF RX10 fX10 ∧ tf_okT cX10_noHand tX10_noHand := ⟨by decide, okfX10, okX10_noHand⟩
def mX10_noHand : tf_M := (yX10_noHand, cX10_noHand, 1, (some .boolean))

set_option maxHeartbeats 1000000 in
theorem c_noHand {G : tf_G} {S : tf_Sg} (v : Int32)  : tf_Fn mX10_noHand 1 0 0 G S [.int v] G S (some (.int (if ¬ v < 0 ∧ ¬ 4 ≤ v then 0 else 1))) := by
  refine tf_Fn_of (own := RX10) false ⟨by decide, rfl, by decide⟩ (Nat.le_of_ble_eq_true rfl) (by show (if _ then (0 : Int32) else 1) = 0 ∨ _; split; exact Or.inl rfl; exact Or.inr rfl) (fun x hx hR => ?_)
  show tf_K x 0 0 G S 0 [some (.int v)] []
  by_cases c1 : v < 0
  · refine tf_go hx ftX10_noHand 4 [true] 14 [some (.int v)] [.int 1] S rfl ⟨by decide, by decide, rfl⟩ ⟨trivial, (by first | assumption | rfl | decide | omega)⟩ ?_
    exact tf_ret ftX10_noHand hR rfl ⟨by decide, by decide⟩ rfl rfl (by rw [if_neg (by rintro ⟨h, -⟩; exact h c1)]; rfl)
  · by_cases c2 : v < 4
    · refine tf_go hx ftX10_noHand 6 [false, true] 14 [some (.int v)] [.int 0] S rfl ⟨by decide, by decide, rfl⟩ ⟨⟨trivial, (by first | assumption | rfl | decide | omega)⟩, (by first | assumption | rfl | decide | omega)⟩ ?_
      exact tf_ret ftX10_noHand hR rfl ⟨by decide, by decide⟩ rfl rfl (by rw [if_pos ⟨c1, Int32.not_le.mpr c2⟩]; rfl)
    · refine tf_go hx ftX10_noHand 7 [false, false] 14 [some (.int v)] [.int 1] S rfl ⟨by decide, by decide, rfl⟩ ⟨⟨trivial, (by first | assumption | rfl | decide | omega)⟩, (by first | assumption | rfl | decide | omega)⟩ ?_
      exact tf_ret ftX10_noHand hR rfl ⟨by decide, by decide⟩ rfl rfl (by rw [if_neg (by rintro ⟨-, h⟩; exact h (Int32.not_lt.mp c2))]; rfl)

def tX10_noBoard : tf_T := [(0, .iload_n 0, 1, 0, 0),
  (1, .ifCond .lt 8, 4, 9, 0),
  (4, .iload_n 0, 5, 0, 0),
  (5, .iconst 4, 6, 0, 4),
  (6, .if_icmp .lt 7, 9, 13, 0),
  (9, .iconst 1, 10, 0, 1),
  (10, .goto 4, 13, 14, 0),
  (13, .iconst 0, 14, 0, 0),
  (14, .ireturn, 15, 0, 0)]
set_option maxRecDepth 100000 in
theorem okX10_noBoard : tf_okT cX10_noBoard tX10_noBoard := by unfold tf_okT; decide +kernel
theorem ftX10_noBoard : 1 ≤ 1 ∧ tf_okF RX10 fX10 ∧ tf_okT cX10_noBoard tX10_noBoard := ⟨by decide, okfX10, okX10_noBoard⟩
def mX10_noBoard : tf_M := (yX10_noBoard, cX10_noBoard, 1, (some .boolean))

set_option maxHeartbeats 1000000 in
theorem c_noBoard {G : tf_G} {S : tf_Sg} (v : Int32)  : tf_Fn mX10_noBoard 1 0 0 G S [.int v] G S (some (.int (if ¬ v < 0 ∧ ¬ 4 ≤ v then 0 else 1))) := by
  refine tf_Fn_of (own := RX10) false ⟨by decide, rfl, by decide⟩ (Nat.le_of_ble_eq_true rfl) (by show (if _ then (0 : Int32) else 1) = 0 ∨ _; split; exact Or.inl rfl; exact Or.inr rfl) (fun x hx hR => ?_)
  show tf_K x 0 0 G S 0 [some (.int v)] []
  by_cases c1 : v < 0
  · refine tf_go hx ftX10_noBoard 4 [true] 14 [some (.int v)] [.int 1] S rfl ⟨by decide, by decide, rfl⟩ ⟨trivial, (by first | assumption | rfl | decide | omega)⟩ ?_
    exact tf_ret ftX10_noBoard hR rfl ⟨by decide, by decide⟩ rfl rfl (by rw [if_neg (by rintro ⟨h, -⟩; exact h c1)]; rfl)
  · by_cases c2 : v < 4
    · refine tf_go hx ftX10_noBoard 6 [false, true] 14 [some (.int v)] [.int 0] S rfl ⟨by decide, by decide, rfl⟩ ⟨⟨trivial, (by first | assumption | rfl | decide | omega)⟩, (by first | assumption | rfl | decide | omega)⟩ ?_
      exact tf_ret ftX10_noBoard hR rfl ⟨by decide, by decide⟩ rfl rfl (by rw [if_pos ⟨c1, Int32.not_le.mpr c2⟩]; rfl)
    · refine tf_go hx ftX10_noBoard 7 [false, false] 14 [some (.int v)] [.int 1] S rfl ⟨by decide, by decide, rfl⟩ ⟨⟨trivial, (by first | assumption | rfl | decide | omega)⟩, (by first | assumption | rfl | decide | omega)⟩ ?_
      exact tf_ret ftX10_noBoard hR rfl ⟨by decide, by decide⟩ rfl rfl (by rw [if_neg (by rintro ⟨-, h⟩; exact h (Int32.not_lt.mp c2))]; rfl)

def tX4_isLetter : tf_T := [(0, .iload_n 0, 1, 0, 0),
  (1, .bipush 97, 3, 0, 97),
  (3, .if_icmp .lt 13, 6, 16, 0),
  (6, .iload_n 0, 7, 0, 0),
  (7, .bipush 122, 9, 0, 122),
  (9, .if_icmp .gt 7, 12, 16, 0),
  (12, .iconst 1, 13, 0, 1),
  (13, .goto 4, 16, 17, 0),
  (16, .iconst 0, 17, 0, 0),
  (17, .ireturn, 18, 0, 0)]
set_option maxRecDepth 100000 in
theorem okX4_isLetter : tf_okT cX4_isLetter tX4_isLetter := by unfold tf_okT; decide +kernel
theorem ftX4_isLetter : 1 ≤ 1 ∧ tf_okF RX4 fX4 ∧ tf_okT cX4_isLetter tX4_isLetter := ⟨by decide, okfX4, okX4_isLetter⟩
def mX4_isLetter : tf_M := (yX4_isLetter, cX4_isLetter, 1, (some .boolean))

set_option maxHeartbeats 1000000 in
theorem c_isLetter {G : tf_G} {S : tf_Sg} (v : Int32)  : tf_Fn mX4_isLetter 1 0 0 G S [.int v] G S (some (.int (if ¬ v < 97 ∧ ¬ 122 < v then 1 else 0))) := by
  refine tf_Fn_of (own := RX4) false ⟨by decide, rfl, by decide⟩ (Nat.le_of_ble_eq_true rfl) (by show (if _ then (1 : Int32) else 0) = 0 ∨ _; split; exact Or.inr rfl; exact Or.inl rfl) (fun x hx hR => ?_)
  show tf_K x 0 0 G S 0 [some (.int v)] []
  by_cases c1 : v < 97
  · refine tf_go hx ftX4_isLetter 4 [true] 17 [some (.int v)] [.int 0] S rfl ⟨by decide, by decide, rfl⟩ ⟨trivial, (by first | assumption | rfl | decide | omega)⟩ ?_
    exact tf_ret ftX4_isLetter hR rfl ⟨by decide, by decide⟩ rfl rfl (by rw [if_neg (by rintro ⟨h, -⟩; exact h c1)]; rfl)
  · by_cases c2 : 122 < v
    · refine tf_go hx ftX4_isLetter 7 [false, true] 17 [some (.int v)] [.int 0] S rfl ⟨by decide, by decide, rfl⟩ ⟨⟨trivial, (by first | assumption | rfl | decide | omega)⟩, (by first | assumption | rfl | decide | omega)⟩ ?_
      exact tf_ret ftX4_isLetter hR rfl ⟨by decide, by decide⟩ rfl rfl (by rw [if_neg (by rintro ⟨-, h⟩; exact h c2)]; rfl)
    · refine tf_go hx ftX4_isLetter 8 [false, false] 17 [some (.int v)] [.int 1] S rfl ⟨by decide, by decide, rfl⟩ ⟨⟨trivial, (by first | assumption | rfl | decide | omega)⟩, (by first | assumption | rfl | decide | omega)⟩ ?_
      exact tf_ret ftX4_isLetter hR rfl ⟨by decide, by decide⟩ rfl rfl (by rw [if_pos ⟨c1, c2⟩]; rfl)

