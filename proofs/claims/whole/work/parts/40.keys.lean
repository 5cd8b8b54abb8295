/-- the static row of fingers -/
def tf_k1 (G : tf_G) (S : tf_Sg) : Prop := tf_tg G 1 = 14 ∧ tf_ln G 1 = 10 ∧ ∀ j, j < 10 → S 1 j = nI (tf_fi j 0)
theorem tf_fi_c (k : Nat) : tf_fi (k % 10) 0 = tf_fi k 0 := by unfold tf_fi; rw [Nat.mod_mod]
theorem tf_fi_h (k t : Nat) : tf_fi k t / 4 = if k % 10 < 5 then 0 else 1 := by unfold tf_fi; repeat (first | split | omega)
/-- a place read in a row of which some numbers are known -/
theorem tf_rdb {S : tf_Sg} {a N : Nat} {f : Nat → Nat} (hs : ∀ k, k < N → S a k = nI (f k)) {x : Int32} {n : Nat} (hx : x = nI n) (hn : n < N) (hN : N < 2147483648) : S a x.toNatClampNeg = nI (f n) := by rw [tf_cln hx (by omega), hs n hn]
theorem tf_amx {a b : Nat} (ha : a < 1000000) (hb : b < 1000000) : (if 0 ≤ nI a - nI b then nI a - nI b else 0 - (nI a - nI b)) = nI (tf_di a b) := by
  unfold tf_di
  by_cases h : a < b
  · rw [if_neg (Int32.not_le.mpr (pk_sneg (by omega) h)), show a - b = 0 by omega, Nat.zero_add]
    have : 0 - (nI a - nI b) = nI b - nI a := by rw [Int32.zero_sub, Int32.neg_sub]
    rw [this, pk_sub (by omega)]
  · rw [pk_sub (by omega), if_pos (Int32.not_lt.mp (nI_pos (by omega))), show b - a = 0 by omega, Nat.add_zero]

def fX2 : tf_F := [(15, 100, 1), (19, 101, 2)]
set_option maxRecDepth 100000 in
theorem okfX2 : tf_okF RX2 fX2 := by unfold tf_okF; decide +kernel

def tX2_fingerBy : tf_T := [(0, .iload_n 0, 1, 0, 0),
  (1, .invokestatic 9, 4, 0, 0),
  (4, .ifCond .eq 6, 7, 10, 0),
  (7, .bipush (-9), 9, 0, (-9)),
  (9, .ireturn, 10, 0, 0),
  (10, .iload_n 0, 11, 0, 0),
  (11, .bipush 10, 13, 0, 10),
  (13, .irem, 14, 0, 0),
  (14, .istore_n 2, 15, 0, 0),
  (15, .iload_n 1, 16, 0, 0),
  (16, .ifCond .eq 14, 19, 30, 0),
  (19, .iload_n 2, 20, 0, 0),
  (20, .iconst 5, 21, 0, 5),
  (21, .if_icmp .ge 7, 24, 28, 0),
  (24, .iconst 0, 25, 0, 0),
  (25, .goto 4, 28, 29, 0),
  (28, .iconst 4, 29, 0, 4),
  (29, .ireturn, 30, 0, 0),
  (30, .getstatic 15, 33, 0, 0),
  (33, .iload_n 2, 34, 0, 0),
  (34, .iaload, 35, 0, 0),
  (35, .ireturn, 36, 0, 0)]
set_option maxRecDepth 100000 in
theorem okX2_fingerBy : tf_okT cX2_fingerBy tX2_fingerBy := by unfold tf_okT; decide +kernel
theorem ftX2_fingerBy : 1 ≤ 2 ∧ tf_okF RX2 fX2 ∧ tf_okT cX2_fingerBy tX2_fingerBy := ⟨by decide, okfX2, okX2_fingerBy⟩
def mX2_fingerBy : tf_M := (yX2_fingerBy, cX2_fingerBy, 3, (some .int))

def tX2_inRightHalf : tf_T := [(0, .iload_n 0, 1, 0, 0),
  (1, .bipush 10, 3, 0, 10),
  (3, .irem, 4, 0, 0),
  (4, .iconst 5, 5, 0, 5),
  (5, .if_icmp .lt 7, 8, 12, 0),
  (8, .iconst 1, 9, 0, 1),
  (9, .goto 4, 12, 13, 0),
  (12, .iconst 0, 13, 0, 0),
  (13, .ireturn, 14, 0, 0)]
set_option maxRecDepth 100000 in
theorem okX2_inRightHalf : tf_okT cX2_inRightHalf tX2_inRightHalf := by unfold tf_okT; decide +kernel
theorem ftX2_inRightHalf : 1 ≤ 1 ∧ tf_okF RX2 fX2 ∧ tf_okT cX2_inRightHalf tX2_inRightHalf := ⟨by decide, okfX2, okX2_inRightHalf⟩
def mX2_inRightHalf : tf_M := (yX2_inRightHalf, cX2_inRightHalf, 1, (some .boolean))

def tX2_linesBetween : tf_T := [(0, .iload_n 0, 1, 0, 0),
  (1, .bipush 10, 3, 0, 10),
  (3, .idiv, 4, 0, 0),
  (4, .iload_n 1, 5, 0, 0),
  (5, .bipush 10, 7, 0, 10),
  (7, .idiv, 8, 0, 0),
  (8, .isub, 9, 0, 0),
  (9, .invokestatic 19, 12, 0, 0),
  (12, .ireturn, 13, 0, 0)]
set_option maxRecDepth 100000 in
theorem okX2_linesBetween : tf_okT cX2_linesBetween tX2_linesBetween := by unfold tf_okT; decide +kernel
theorem ftX2_linesBetween : 1 ≤ 1 ∧ tf_okF RX2 fX2 ∧ tf_okT cX2_linesBetween tX2_linesBetween := ⟨by decide, okfX2, okX2_linesBetween⟩
def mX2_linesBetween : tf_M := (yX2_linesBetween, cX2_linesBetween, 2, (some .int))

def tX2_columnsBetween : tf_T := [(0, .iload_n 0, 1, 0, 0),
  (1, .bipush 10, 3, 0, 10),
  (3, .irem, 4, 0, 0),
  (4, .iload_n 1, 5, 0, 0),
  (5, .bipush 10, 7, 0, 10),
  (7, .irem, 8, 0, 0),
  (8, .isub, 9, 0, 0),
  (9, .invokestatic 19, 12, 0, 0),
  (12, .ireturn, 13, 0, 0)]
set_option maxRecDepth 100000 in
theorem okX2_columnsBetween : tf_okT cX2_columnsBetween tX2_columnsBetween := by unfold tf_okT; decide +kernel
theorem ftX2_columnsBetween : 1 ≤ 1 ∧ tf_okF RX2 fX2 ∧ tf_okT cX2_columnsBetween tX2_columnsBetween := ⟨by decide, okfX2, okX2_columnsBetween⟩
def mX2_columnsBetween : tf_M := (yX2_columnsBetween, cX2_columnsBetween, 2, (some .int))

def tX2_lawBetween : tf_T := [(0, .iload_n 0, 1, 0, 0),
  (1, .iload_n 1, 2, 0, 0),
  (2, .if_icmp .ne 5, 5, 7, 0),
  (5, .iconst 2, 6, 0, 2),
  (6, .ireturn, 7, 0, 0),
  (7, .iload_n 0, 8, 0, 0),
  (8, .iload_n 2, 9, 0, 0),
  (9, .invokestatic 25, 12, 0, 0),
  (12, .iload_n 1, 13, 0, 0),
  (13, .iload_n 2, 14, 0, 0),
  (14, .invokestatic 25, 17, 0, 0),
  (17, .if_icmp .ne 5, 20, 22, 0),
  (20, .iconst 3, 21, 0, 3),
  (21, .ireturn, 22, 0, 0),
  (22, .iload_n 0, 23, 0, 0),
  (23, .invokestatic 29, 26, 0, 0),
  (26, .iload_n 1, 27, 0, 0),
  (27, .invokestatic 29, 30, 0, 0),
  (30, .if_icmp .ne 7, 33, 37, 0),
  (33, .iconst 1, 34, 0, 1),
  (34, .goto 4, 37, 38, 0),
  (37, .iconst 0, 38, 0, 0),
  (38, .ireturn, 39, 0, 0)]
set_option maxRecDepth 100000 in
theorem okX2_lawBetween : tf_okT cX2_lawBetween tX2_lawBetween := by unfold tf_okT; decide +kernel
theorem ftX2_lawBetween : 1 ≤ 3 ∧ tf_okF RX2 fX2 ∧ tf_okT cX2_lawBetween tX2_lawBetween := ⟨by decide, okfX2, okX2_lawBetween⟩
def mX2_lawBetween : tf_M := (yX2_lawBetween, cX2_lawBetween, 3, (some .int))

def tX2_beside : tf_T := [(0, .iload_n 0, 1, 0, 0),
  (1, .iload_n 1, 2, 0, 0),
  (2, .invokestatic 32, 5, 0, 0),
  (5, .iload_n 0, 6, 0, 0),
  (6, .iload_n 1, 7, 0, 0),
  (7, .invokestatic 36, 10, 0, 0),
  (10, .iadd, 11, 0, 0),
  (11, .iconst 1, 12, 0, 1),
  (12, .if_icmp .ne 7, 15, 19, 0),
  (15, .iconst 1, 16, 0, 1),
  (16, .goto 4, 19, 20, 0),
  (19, .iconst 0, 20, 0, 0),
  (20, .ireturn, 21, 0, 0)]
set_option maxRecDepth 100000 in
theorem okX2_beside : tf_okT cX2_beside tX2_beside := by unfold tf_okT; decide +kernel
theorem ftX2_beside : 1 ≤ 2 ∧ tf_okF RX2 fX2 ∧ tf_okT cX2_beside tX2_beside := ⟨by decide, okfX2, okX2_beside⟩
def mX2_beside : tf_M := (yX2_beside, cX2_beside, 2, (some .boolean))

def tX2_mirrored : tf_T := [(0, .iload_n 0, 1, 0, 0),
  (1, .iload_n 1, 2, 0, 0),
  (2, .invokestatic 32, 5, 0, 0),
  (5, .ifCond .ne 21, 8, 26, 0),
  (8, .iload_n 0, 9, 0, 0),
  (9, .bipush 10, 11, 0, 10),
  (11, .irem, 12, 0, 0),
  (12, .iload_n 1, 13, 0, 0),
  (13, .bipush 10, 15, 0, 10),
  (15, .irem, 16, 0, 0),
  (16, .iadd, 17, 0, 0),
  (17, .bipush 9, 19, 0, 9),
  (19, .if_icmp .ne 7, 22, 26, 0),
  (22, .iconst 1, 23, 0, 1),
  (23, .goto 4, 26, 27, 0),
  (26, .iconst 0, 27, 0, 0),
  (27, .ireturn, 28, 0, 0)]
set_option maxRecDepth 100000 in
theorem okX2_mirrored : tf_okT cX2_mirrored tX2_mirrored := by unfold tf_okT; decide +kernel
theorem ftX2_mirrored : 1 ≤ 2 ∧ tf_okF RX2 fX2 ∧ tf_okT cX2_mirrored tX2_mirrored := ⟨by decide, okfX2, okX2_mirrored⟩
def mX2_mirrored : tf_M := (yX2_mirrored, cX2_mirrored, 2, (some .boolean))

set_option maxRecDepth 100000 in
theorem lX2_9 : tf_okN RX2 9 1 mX10_noKey := by unfold tf_okN tf_okL; decide +kernel

set_option maxRecDepth 100000 in
theorem lX2_25 : tf_okS RX2 25 2 mX2_fingerBy := by unfold tf_okS tf_okL; decide +kernel

set_option maxRecDepth 100000 in
theorem lX2_29 : tf_okS RX2 29 1 mX2_inRightHalf := by unfold tf_okS tf_okL; decide +kernel

set_option maxRecDepth 100000 in
theorem lX2_32 : tf_okS RX2 32 2 mX2_linesBetween := by unfold tf_okS tf_okL; decide +kernel

set_option maxRecDepth 100000 in
theorem lX2_36 : tf_okS RX2 36 2 mX2_columnsBetween := by unfold tf_okS tf_okL; decide +kernel

set_option maxHeartbeats 1000000 in
theorem k_finger {G : tf_G} {S : tf_Sg} (k t : Nat) (h1 : tf_k1 G S) (hk : k < 30) (ht : t < 2) : tf_Fn mX2_fingerBy 2 0 0 G S [.int (nI k), .int (nI t)] G S (some (.int (nI (tf_fi k t)))) := by
  obtain ⟨t1, n1, v1⟩ := id h1
  refine tf_Fn_of (own := RX2) false ⟨by decide, rfl, by decide⟩ (Nat.le_of_ble_eq_true rfl) trivial (fun x hx hR => ?_)
  show tf_K x 0 0 G S 0 [some (.int (nI k)), some (.int (nI t)), none] []
  refine tf_go hx ftX2_fingerBy 1 [] 1 [some (.int (nI k)), some (.int (nI t)), none] [.int (nI k)] S rfl ⟨by decide, by decide, rfl⟩ trivial ?_
  refine tf_cN hx ftX2_fingerBy (nx := 4) (As := [.int (nI k)]) (rest := []) (st2 := [.int (if ¬ (nI k) < 0 ∧ ¬ 30 ≤ (nI k) then 0 else 1)]) (c_noKey (nI k)) rfl lX2_9 rfl ⟨rfl, by decide, by decide, by decide, rfl, rfl⟩ ?_
  rw [if_pos (show ¬ nI k < 0 ∧ ¬ 30 ≤ nI k from ⟨tf_ltF (a := k) (b := 0) rfl rfl (by omega) (by omega) (by omega), tf_leF (a := 30) (b := k) rfl rfl (by omega) (by omega) (by omega)⟩)]
  refine tf_go hx ftX2_fingerBy 1 [true] 10 [some (.int (nI k)), some (.int (nI t)), none] [] S rfl ⟨by decide, by decide, rfl⟩ ⟨trivial, rfl⟩ ?_
  refine tf_go hx ftX2_fingerBy 4 [] 15 [some (.int (nI k)), some (.int (nI t)), some (.int ((nI k) - (nI k) / 10 * 10))] [] S rfl ⟨by decide, by decide, rfl⟩ ⟨trivial, (by decide)⟩ ?_
  rw [show ((nI k) - (nI k) / 10 * 10) = nI (k % 10) from (tf_rem (a := k) (d := 10) rfl (rfl : (10 : Int32) = nI 10) (by omega) (by omega) (by omega))]
  by_cases e1 : t = 0
  · refine tf_go hx ftX2_fingerBy 2 [true] 30 [some (.int (nI k)), some (.int (nI t)), some (.int (nI (k % 10)))] [] S rfl ⟨by decide, by decide, rfl⟩ ⟨trivial, (tf_eqT (a := t) (b := 0) rfl (rfl : (0 : Int32) = nI 0) (by omega))⟩ ?_
    refine tf_go hx ftX2_fingerBy 2 [] 34 [some (.int (nI k)), some (.int (nI t)), some (.int (nI (k % 10)))] [.int (nI (k % 10)), .ref 1] S rfl ⟨by decide, by decide, rfl⟩ trivial ?_
    have l1 : k % 10 < 10 := by omega
    refine tf_go hx ftX2_fingerBy 1 [] 35 [some (.int (nI k)), some (.int (nI t)), some (.int (nI (k % 10)))] [.int (S 1 (Int32.toNatClampNeg (nI (k % 10))))] S rfl ⟨by decide, by decide, rfl⟩ ⟨trivial, ⟨Or.inr (by first | assumption | rfl | decide | omega), by first | assumption | exact tf_in (n := (k % 10)) rfl (by first | assumption | rfl) (by omega) (by decide)⟩⟩ ?_
    rw [show (S 1 (Int32.toNatClampNeg (nI (k % 10)))) = nI (tf_fi k 0) from (by rw [tf_cl_nI (by omega), v1 _ l1, tf_fi_c])]
    exact tf_ret ftX2_fingerBy hR rfl ⟨by decide, by decide⟩ rfl rfl (by rw [e1]; rfl)
  · have e3 : t = 1 := by omega
    refine tf_go hx ftX2_fingerBy 2 [false] 19 [some (.int (nI k)), some (.int (nI t)), some (.int (nI (k % 10)))] [] S rfl ⟨by decide, by decide, rfl⟩ ⟨trivial, (tf_eqF (a := t) (b := 0) rfl (rfl : (0 : Int32) = nI 0) (by omega) (by omega) (by omega))⟩ ?_
    by_cases e2 : k % 10 < 5
    · refine tf_go hx ftX2_fingerBy 5 [false] 29 [some (.int (nI k)), some (.int (nI t)), some (.int (nI (k % 10)))] [.int 0] S rfl ⟨by decide, by decide, rfl⟩ ⟨trivial, (tf_leF (a := 5) (b := (k % 10)) (rfl : (5 : Int32) = nI 5) rfl (by omega) (by omega) (by omega))⟩ ?_
      exact tf_ret ftX2_fingerBy hR rfl ⟨by decide, by decide⟩ rfl rfl (by unfold tf_fi; rw [if_pos e1, if_pos e2]; rfl)
    · refine tf_go hx ftX2_fingerBy 4 [true] 29 [some (.int (nI k)), some (.int (nI t)), some (.int (nI (k % 10)))] [.int 4] S rfl ⟨by decide, by decide, rfl⟩ ⟨trivial, (tf_leT (a := 5) (b := (k % 10)) (rfl : (5 : Int32) = nI 5) rfl (by omega) (by omega) (by omega))⟩ ?_
      exact tf_ret ftX2_fingerBy hR rfl ⟨by decide, by decide⟩ rfl rfl (by unfold tf_fi; rw [if_pos e1, if_neg e2]; rfl)

set_option maxHeartbeats 1000000 in
theorem k_finger9 {G : tf_G} {S : tf_Sg} (t : Int32)  : tf_Fn mX2_fingerBy 2 0 0 G S [.int (-9), .int t] G S (some (.int (-9))) := by
  refine tf_Fn_of (own := RX2) false ⟨by decide, rfl, by decide⟩ (Nat.le_of_ble_eq_true rfl) trivial (fun x hx hR => ?_)
  show tf_K x 0 0 G S 0 [some (.int (-9)), some (.int t), none] []
  refine tf_go hx ftX2_fingerBy 1 [] 1 [some (.int (-9)), some (.int t), none] [.int (-9)] S rfl ⟨by decide, by decide, rfl⟩ trivial ?_
  refine tf_cN hx ftX2_fingerBy (nx := 4) (As := [.int (-9)]) (rest := []) (st2 := [.int (if ¬ (-9) < 0 ∧ ¬ 30 ≤ (-9) then 0 else 1)]) (c_noKey (-9)) rfl lX2_9 rfl ⟨rfl, by decide, by decide, by decide, rfl, rfl⟩ ?_
  rw [if_neg (show ¬ (¬ (-9 : Int32) < 0 ∧ ¬ 30 ≤ (-9 : Int32)) by decide)]
  refine tf_go hx ftX2_fingerBy 1 [false] 7 [some (.int (-9)), some (.int t), none] [] S rfl ⟨by decide, by decide, rfl⟩ ⟨trivial, (by decide)⟩ ?_
  refine tf_go hx ftX2_fingerBy 1 [] 9 [some (.int (-9)), some (.int t), none] [.int (-9)] S rfl ⟨by decide, by decide, rfl⟩ trivial ?_
  exact tf_ret ftX2_fingerBy hR rfl ⟨by decide, by decide⟩ rfl rfl rfl

set_option maxHeartbeats 1000000 in
theorem k_half {G : tf_G} {S : tf_Sg} (k : Nat) (hk : k < 30) : tf_Fn mX2_inRightHalf 1 0 0 G S [.int (nI k)] G S (some (.int (nI (if k % 10 < 5 then 0 else 1)))) := by
  refine tf_Fn_of (own := RX2) false ⟨by decide, rfl, by decide⟩ (Nat.le_of_ble_eq_true rfl) (by show nI (if _ then 0 else 1) = 0 ∨ _; split; exact Or.inl rfl; exact Or.inr rfl) (fun x hx hR => ?_)
  show tf_K x 0 0 G S 0 [some (.int (nI k))] []
  by_cases e1 : k % 10 < 5
  · refine tf_go hx ftX2_inRightHalf 3 [] 4 [some (.int (nI k))] [.int ((nI k) - (nI k) / 10 * 10)] S rfl ⟨by decide, by decide, rfl⟩ ⟨trivial, (by decide)⟩ ?_
    rw [show ((nI k) - (nI k) / 10 * 10) = nI (k % 10) from (tf_rem (a := k) (d := 10) rfl (rfl : (10 : Int32) = nI 10) (by omega) (by omega) (by omega))]
    refine tf_go hx ftX2_inRightHalf 3 [true] 13 [some (.int (nI k))] [.int 0] S rfl ⟨by decide, by decide, rfl⟩ ⟨trivial, (tf_ltT (a := (k % 10)) (b := 5) rfl (rfl : (5 : Int32) = nI 5) (by omega) (by omega) (by omega))⟩ ?_
    exact tf_ret ftX2_inRightHalf hR rfl ⟨by decide, by decide⟩ rfl rfl (by rw [if_pos e1]; rfl)
  · refine tf_go hx ftX2_inRightHalf 3 [] 4 [some (.int (nI k))] [.int ((nI k) - (nI k) / 10 * 10)] S rfl ⟨by decide, by decide, rfl⟩ ⟨trivial, (by decide)⟩ ?_
    rw [show ((nI k) - (nI k) / 10 * 10) = nI (k % 10) from (tf_rem (a := k) (d := 10) rfl (rfl : (10 : Int32) = nI 10) (by omega) (by omega) (by omega))]
    refine tf_go hx ftX2_inRightHalf 4 [false] 13 [some (.int (nI k))] [.int 1] S rfl ⟨by decide, by decide, rfl⟩ ⟨trivial, (tf_ltF (a := (k % 10)) (b := 5) rfl (rfl : (5 : Int32) = nI 5) (by omega) (by omega) (by omega))⟩ ?_
    exact tf_ret ftX2_inRightHalf hR rfl ⟨by decide, by decide⟩ rfl rfl (by rw [if_neg e1]; rfl)

set_option maxHeartbeats 1000000 in
theorem k_lines {G : tf_G} {S : tf_Sg} (p q : Nat) (hp : p < 30) (hq : q < 30) : tf_Fn mX2_linesBetween 1 0 0 G S [.int (nI p), .int (nI q)] G S (some (.int (nI (tf_di (p / 10) (q / 10))))) := by
  refine tf_Fn_of (own := RX2) false ⟨by decide, rfl, by decide⟩ (Nat.le_of_ble_eq_true rfl) trivial (fun x hx hR => ?_)
  show tf_K x 0 0 G S 0 [some (.int (nI p)), some (.int (nI q))] []
  refine tf_go hx ftX2_linesBetween 3 [] 4 [some (.int (nI p)), some (.int (nI q))] [.int ((nI p) / 10)] S rfl ⟨by decide, by decide, rfl⟩ ⟨trivial, (by decide)⟩ ?_
  rw [show ((nI p) / 10) = nI (p / 10) from (tf_div (a := p) (d := 10) rfl (rfl : (10 : Int32) = nI 10) (by omega) (by omega) (by omega))]
  refine tf_go hx ftX2_linesBetween 3 [] 8 [some (.int (nI p)), some (.int (nI q))] [.int ((nI q) / 10), .int (nI (p / 10))] S rfl ⟨by decide, by decide, rfl⟩ ⟨trivial, (by decide)⟩ ?_
  rw [show ((nI q) / 10) = nI (q / 10) from (tf_div (a := q) (d := 10) rfl (rfl : (10 : Int32) = nI 10) (by omega) (by omega) (by omega))]
  refine tf_go hx ftX2_linesBetween 2 [] 12 [some (.int (nI p)), some (.int (nI q))] [.int (if 0 ≤ ((nI (p / 10)) - (nI (q / 10))) then ((nI (p / 10)) - (nI (q / 10))) else 0 - ((nI (p / 10)) - (nI (q / 10))))] S rfl ⟨by decide, by decide, rfl⟩ trivial ?_
  rw [tf_amx (show p / 10 < 1000000 by omega) (show q / 10 < 1000000 by omega)]
  exact tf_ret ftX2_linesBetween hR rfl ⟨by decide, by decide⟩ rfl rfl rfl

set_option maxHeartbeats 1000000 in
theorem k_cols {G : tf_G} {S : tf_Sg} (p q : Nat) (hp : p < 30) (hq : q < 30) : tf_Fn mX2_columnsBetween 1 0 0 G S [.int (nI p), .int (nI q)] G S (some (.int (nI (tf_di (p % 10) (q % 10))))) := by
  refine tf_Fn_of (own := RX2) false ⟨by decide, rfl, by decide⟩ (Nat.le_of_ble_eq_true rfl) trivial (fun x hx hR => ?_)
  show tf_K x 0 0 G S 0 [some (.int (nI p)), some (.int (nI q))] []
  refine tf_go hx ftX2_columnsBetween 3 [] 4 [some (.int (nI p)), some (.int (nI q))] [.int ((nI p) - (nI p) / 10 * 10)] S rfl ⟨by decide, by decide, rfl⟩ ⟨trivial, (by decide)⟩ ?_
  rw [show ((nI p) - (nI p) / 10 * 10) = nI (p % 10) from (tf_rem (a := p) (d := 10) rfl (rfl : (10 : Int32) = nI 10) (by omega) (by omega) (by omega))]
  refine tf_go hx ftX2_columnsBetween 3 [] 8 [some (.int (nI p)), some (.int (nI q))] [.int ((nI q) - (nI q) / 10 * 10), .int (nI (p % 10))] S rfl ⟨by decide, by decide, rfl⟩ ⟨trivial, (by decide)⟩ ?_
  rw [show ((nI q) - (nI q) / 10 * 10) = nI (q % 10) from (tf_rem (a := q) (d := 10) rfl (rfl : (10 : Int32) = nI 10) (by omega) (by omega) (by omega))]
  refine tf_go hx ftX2_columnsBetween 2 [] 12 [some (.int (nI p)), some (.int (nI q))] [.int (if 0 ≤ ((nI (p % 10)) - (nI (q % 10))) then ((nI (p % 10)) - (nI (q % 10))) else 0 - ((nI (p % 10)) - (nI (q % 10))))] S rfl ⟨by decide, by decide, rfl⟩ trivial ?_
  rw [tf_amx (show p % 10 < 1000000 by omega) (show q % 10 < 1000000 by omega)]
  exact tf_ret ftX2_columnsBetween hR rfl ⟨by decide, by decide⟩ rfl rfl rfl

set_option maxHeartbeats 1000000 in
theorem k_law {G : tf_G} {S : tf_Sg} (p q t : Nat) (h1 : tf_k1 G S) (hp : p < 30) (hq : q < 30) (ht : t < 2) : tf_Fn mX2_lawBetween 3 0 0 G S [.int (nI p), .int (nI q), .int (nI t)] G S (some (.int (nI (tf_la p q t)))) := by
  refine tf_Fn_of (own := RX2) false ⟨by decide, rfl, by decide⟩ (Nat.le_of_ble_eq_true rfl) trivial (fun x hx hR => ?_)
  show tf_K x 0 0 G S 0 [some (.int (nI p)), some (.int (nI q)), some (.int (nI t))] []
  by_cases e1 : p = q
  · refine tf_go hx ftX2_lawBetween 2 [] 2 [some (.int (nI p)), some (.int (nI q)), some (.int (nI t))] [.int (nI q), .int (nI p)] S rfl ⟨by decide, by decide, rfl⟩ trivial ?_
    refine tf_go hx ftX2_lawBetween 1 [false] 5 [some (.int (nI p)), some (.int (nI q)), some (.int (nI t))] [] S rfl ⟨by decide, by decide, rfl⟩ ⟨trivial, (tf_neF (a := p) (b := q) rfl rfl (by omega))⟩ ?_
    refine tf_go hx ftX2_lawBetween 1 [] 6 [some (.int (nI p)), some (.int (nI q)), some (.int (nI t))] [.int 2] S rfl ⟨by decide, by decide, rfl⟩ trivial ?_
    exact tf_ret ftX2_lawBetween hR rfl ⟨by decide, by decide⟩ rfl rfl (by unfold tf_la; rw [if_pos e1]; rfl)
  · refine tf_go hx ftX2_lawBetween 2 [] 2 [some (.int (nI p)), some (.int (nI q)), some (.int (nI t))] [.int (nI q), .int (nI p)] S rfl ⟨by decide, by decide, rfl⟩ trivial ?_
    refine tf_go hx ftX2_lawBetween 1 [true] 7 [some (.int (nI p)), some (.int (nI q)), some (.int (nI t))] [] S rfl ⟨by decide, by decide, rfl⟩ ⟨trivial, (tf_eqF (a := p) (b := q) rfl rfl (by omega) (by omega) (by omega))⟩ ?_
    refine tf_go hx ftX2_lawBetween 2 [] 9 [some (.int (nI p)), some (.int (nI q)), some (.int (nI t))] [.int (nI t), .int (nI p)] S rfl ⟨by decide, by decide, rfl⟩ trivial ?_
    refine tf_cS hx ftX2_lawBetween (nx := 12) (As := [.int (nI p), .int (nI t)]) (rest := []) (st2 := [.int (nI (tf_fi p t))]) (k_finger p t h1 hp ht) rfl lX2_25 rfl ⟨rfl, by decide, by decide, by decide, rfl, rfl⟩ ?_
    refine tf_go hx ftX2_lawBetween 2 [] 14 [some (.int (nI p)), some (.int (nI q)), some (.int (nI t))] [.int (nI t), .int (nI q), .int (nI (tf_fi p t))] S rfl ⟨by decide, by decide, rfl⟩ trivial ?_
    refine tf_cS hx ftX2_lawBetween (nx := 17) (As := [.int (nI q), .int (nI t)]) (rest := [.int (nI (tf_fi p t))]) (st2 := [.int (nI (tf_fi q t)), .int (nI (tf_fi p t))]) (k_finger q t h1 hq ht) rfl lX2_25 rfl ⟨rfl, by decide, by decide, by decide, rfl, rfl⟩ ?_
    have f1 := tf_fi_le p t
    have f2 := tf_fi_le q t
    by_cases e2 : tf_fi p t = tf_fi q t
    · refine tf_go hx ftX2_lawBetween 1 [false] 20 [some (.int (nI p)), some (.int (nI q)), some (.int (nI t))] [] S rfl ⟨by decide, by decide, rfl⟩ ⟨trivial, (tf_neF (a := (tf_fi p t)) (b := (tf_fi q t)) rfl rfl (by omega))⟩ ?_
      refine tf_go hx ftX2_lawBetween 1 [] 21 [some (.int (nI p)), some (.int (nI q)), some (.int (nI t))] [.int 3] S rfl ⟨by decide, by decide, rfl⟩ trivial ?_
      exact tf_ret ftX2_lawBetween hR rfl ⟨by decide, by decide⟩ rfl rfl (by unfold tf_la; rw [if_neg e1, if_pos e2]; rfl)
    · refine tf_go hx ftX2_lawBetween 1 [true] 22 [some (.int (nI p)), some (.int (nI q)), some (.int (nI t))] [] S rfl ⟨by decide, by decide, rfl⟩ ⟨trivial, (tf_eqF (a := (tf_fi p t)) (b := (tf_fi q t)) rfl rfl (by omega) (by omega) (by omega))⟩ ?_
      refine tf_go hx ftX2_lawBetween 1 [] 23 [some (.int (nI p)), some (.int (nI q)), some (.int (nI t))] [.int (nI p)] S rfl ⟨by decide, by decide, rfl⟩ trivial ?_
      refine tf_cS hx ftX2_lawBetween (nx := 26) (As := [.int (nI p)]) (rest := []) (st2 := [.int (nI (if p % 10 < 5 then 0 else 1))]) (k_half p hp) rfl lX2_29 rfl ⟨rfl, by decide, by decide, by decide, rfl, rfl⟩ ?_
      refine tf_go hx ftX2_lawBetween 1 [] 27 [some (.int (nI p)), some (.int (nI q)), some (.int (nI t))] [.int (nI q), .int (nI (if p % 10 < 5 then 0 else 1))] S rfl ⟨by decide, by decide, rfl⟩ trivial ?_
      refine tf_cS hx ftX2_lawBetween (nx := 30) (As := [.int (nI q)]) (rest := [.int (nI (if p % 10 < 5 then 0 else 1))]) (st2 := [.int (nI (if q % 10 < 5 then 0 else 1)), .int (nI (if p % 10 < 5 then 0 else 1))]) (k_half q hq) rfl lX2_29 rfl ⟨rfl, by decide, by decide, by decide, rfl, rfl⟩ ?_
      have f3 := tf_fi_h p t
      have f4 := tf_fi_h q t
      have g1 : (if p % 10 < 5 then 0 else 1) ≤ 1 := by split <;> omega
      have g2 : (if q % 10 < 5 then 0 else 1) ≤ 1 := by split <;> omega
      generalize (if p % 10 < 5 then 0 else 1) = u at *
      generalize (if q % 10 < 5 then 0 else 1) = w at *
      by_cases e3 : u = w
      · refine tf_go hx ftX2_lawBetween 3 [false] 38 [some (.int (nI p)), some (.int (nI q)), some (.int (nI t))] [.int 1] S rfl ⟨by decide, by decide, rfl⟩ ⟨trivial, (tf_neF (a := u) (b := w) rfl rfl (by omega))⟩ ?_
        exact tf_ret ftX2_lawBetween hR rfl ⟨by decide, by decide⟩ rfl rfl (by unfold tf_la; rw [if_neg e1, if_neg e2, if_pos (by omega)]; rfl)
      · refine tf_go hx ftX2_lawBetween 2 [true] 38 [some (.int (nI p)), some (.int (nI q)), some (.int (nI t))] [.int 0] S rfl ⟨by decide, by decide, rfl⟩ ⟨trivial, (tf_eqF (a := u) (b := w) rfl rfl (by omega) (by omega) (by omega))⟩ ?_
        exact tf_ret ftX2_lawBetween hR rfl ⟨by decide, by decide⟩ rfl rfl (by unfold tf_la; rw [if_neg e1, if_neg e2, if_neg (by omega)]; rfl)

set_option maxHeartbeats 1000000 in
theorem k_beside {G : tf_G} {S : tf_Sg} (p q : Nat) (hp : p < 30) (hq : q < 30) : tf_Fn mX2_beside 2 0 0 G S [.int (nI p), .int (nI q)] G S (some (.int (nI (if tf_di (p / 10) (q / 10) + tf_di (p % 10) (q % 10) = 1 then 1 else 0)))) := by
  refine tf_Fn_of (own := RX2) false ⟨by decide, rfl, by decide⟩ (Nat.le_of_ble_eq_true rfl) (by show nI (if _ then 1 else 0) = 0 ∨ _; split; exact Or.inr rfl; exact Or.inl rfl) (fun x hx hR => ?_)
  show tf_K x 0 0 G S 0 [some (.int (nI p)), some (.int (nI q))] []
  refine tf_go hx ftX2_beside 2 [] 2 [some (.int (nI p)), some (.int (nI q))] [.int (nI q), .int (nI p)] S rfl ⟨by decide, by decide, rfl⟩ trivial ?_
  refine tf_cS hx ftX2_beside (nx := 5) (As := [.int (nI p), .int (nI q)]) (rest := []) (st2 := [.int (nI (tf_di (p / 10) (q / 10)))]) (k_lines p q hp hq) rfl lX2_32 rfl ⟨rfl, by decide, by decide, by decide, rfl, rfl⟩ ?_
  have d1 := tf_di_le (show p / 10 < 10 by omega) (show q / 10 < 10 by omega)
  have d2 := tf_di_le (show p % 10 < 10 by omega) (show q % 10 < 10 by omega)
  refine tf_go hx ftX2_beside 2 [] 7 [some (.int (nI p)), some (.int (nI q))] [.int (nI q), .int (nI p), .int (nI (tf_di (p / 10) (q / 10)))] S rfl ⟨by decide, by decide, rfl⟩ trivial ?_
  refine tf_cS hx ftX2_beside (nx := 10) (As := [.int (nI p), .int (nI q)]) (rest := [.int (nI (tf_di (p / 10) (q / 10)))]) (st2 := [.int (nI (tf_di (p % 10) (q % 10))), .int (nI (tf_di (p / 10) (q / 10)))]) (k_cols p q hp hq) rfl lX2_36 rfl ⟨rfl, by decide, by decide, by decide, rfl, rfl⟩ ?_
  refine tf_go hx ftX2_beside 2 [] 12 [some (.int (nI p)), some (.int (nI q))] [.int 1, .int ((nI (tf_di (p / 10) (q / 10))) + (nI (tf_di (p % 10) (q % 10))))] S rfl ⟨by decide, by decide, rfl⟩ trivial ?_
  rw [show ((nI (tf_di (p / 10) (q / 10))) + (nI (tf_di (p % 10) (q % 10)))) = nI ((tf_di (p / 10) (q / 10)) + (tf_di (p % 10) (q % 10))) from (tf_add (a := (tf_di (p / 10) (q / 10))) (b := (tf_di (p % 10) (q % 10))) rfl rfl)]
  by_cases e1 : tf_di (p / 10) (q / 10) + tf_di (p % 10) (q % 10) = 1
  · refine tf_go hx ftX2_beside 3 [false] 20 [some (.int (nI p)), some (.int (nI q))] [.int 1] S rfl ⟨by decide, by decide, rfl⟩ ⟨trivial, (tf_neF (a := ((tf_di (p / 10) (q / 10)) + (tf_di (p % 10) (q % 10)))) (b := 1) rfl (rfl : (1 : Int32) = nI 1) (by omega))⟩ ?_
    exact tf_ret ftX2_beside hR rfl ⟨by decide, by decide⟩ rfl rfl (by rw [if_pos e1]; rfl)
  · refine tf_go hx ftX2_beside 2 [true] 20 [some (.int (nI p)), some (.int (nI q))] [.int 0] S rfl ⟨by decide, by decide, rfl⟩ ⟨trivial, (tf_eqF (a := ((tf_di (p / 10) (q / 10)) + (tf_di (p % 10) (q % 10)))) (b := 1) rfl (rfl : (1 : Int32) = nI 1) (by omega) (by omega) (by omega))⟩ ?_
    exact tf_ret ftX2_beside hR rfl ⟨by decide, by decide⟩ rfl rfl (by rw [if_neg e1]; rfl)

set_option maxHeartbeats 1000000 in
theorem k_mirrored {G : tf_G} {S : tf_Sg} (p q : Nat) (hp : p < 30) (hq : q < 30) : tf_Fn mX2_mirrored 2 0 0 G S [.int (nI p), .int (nI q)] G S (some (.int (nI (if tf_di (p / 10) (q / 10) = 0 ∧ p % 10 + q % 10 = 9 then 1 else 0)))) := by
  refine tf_Fn_of (own := RX2) false ⟨by decide, rfl, by decide⟩ (Nat.le_of_ble_eq_true rfl) (by show nI (if _ then 1 else 0) = 0 ∨ _; split; exact Or.inr rfl; exact Or.inl rfl) (fun x hx hR => ?_)
  show tf_K x 0 0 G S 0 [some (.int (nI p)), some (.int (nI q))] []
  refine tf_go hx ftX2_mirrored 2 [] 2 [some (.int (nI p)), some (.int (nI q))] [.int (nI q), .int (nI p)] S rfl ⟨by decide, by decide, rfl⟩ trivial ?_
  refine tf_cS hx ftX2_mirrored (nx := 5) (As := [.int (nI p), .int (nI q)]) (rest := []) (st2 := [.int (nI (tf_di (p / 10) (q / 10)))]) (k_lines p q hp hq) rfl lX2_32 rfl ⟨rfl, by decide, by decide, by decide, rfl, rfl⟩ ?_
  have d1 := tf_di_le (show p / 10 < 10 by omega) (show q / 10 < 10 by omega)
  have d2 := tf_di_le (show p % 10 < 10 by omega) (show q % 10 < 10 by omega)
  by_cases e1 : tf_di (p / 10) (q / 10) = 0
  · refine tf_go hx ftX2_mirrored 1 [false] 8 [some (.int (nI p)), some (.int (nI q))] [] S rfl ⟨by decide, by decide, rfl⟩ ⟨trivial, (tf_neF (a := (tf_di (p / 10) (q / 10))) (b := 0) rfl (rfl : (0 : Int32) = nI 0) (by omega))⟩ ?_
    refine tf_go hx ftX2_mirrored 3 [] 12 [some (.int (nI p)), some (.int (nI q))] [.int ((nI p) - (nI p) / 10 * 10)] S rfl ⟨by decide, by decide, rfl⟩ ⟨trivial, (by decide)⟩ ?_
    rw [show ((nI p) - (nI p) / 10 * 10) = nI (p % 10) from (tf_rem (a := p) (d := 10) rfl (rfl : (10 : Int32) = nI 10) (by omega) (by omega) (by omega))]
    refine tf_go hx ftX2_mirrored 3 [] 16 [some (.int (nI p)), some (.int (nI q))] [.int ((nI q) - (nI q) / 10 * 10), .int (nI (p % 10))] S rfl ⟨by decide, by decide, rfl⟩ ⟨trivial, (by decide)⟩ ?_
    rw [show ((nI q) - (nI q) / 10 * 10) = nI (q % 10) from (tf_rem (a := q) (d := 10) rfl (rfl : (10 : Int32) = nI 10) (by omega) (by omega) (by omega))]
    refine tf_go hx ftX2_mirrored 2 [] 19 [some (.int (nI p)), some (.int (nI q))] [.int 9, .int ((nI (p % 10)) + (nI (q % 10)))] S rfl ⟨by decide, by decide, rfl⟩ trivial ?_
    rw [show ((nI (p % 10)) + (nI (q % 10))) = nI ((p % 10) + (q % 10)) from (tf_add (a := (p % 10)) (b := (q % 10)) rfl rfl)]
    by_cases e2 : p % 10 + q % 10 = 9
    · refine tf_go hx ftX2_mirrored 3 [false] 27 [some (.int (nI p)), some (.int (nI q))] [.int 1] S rfl ⟨by decide, by decide, rfl⟩ ⟨trivial, (tf_neF (a := ((p % 10) + (q % 10))) (b := 9) rfl (rfl : (9 : Int32) = nI 9) (by omega))⟩ ?_
      exact tf_ret ftX2_mirrored hR rfl ⟨by decide, by decide⟩ rfl rfl (by rw [if_pos ⟨e1, e2⟩]; rfl)
    · refine tf_go hx ftX2_mirrored 2 [true] 27 [some (.int (nI p)), some (.int (nI q))] [.int 0] S rfl ⟨by decide, by decide, rfl⟩ ⟨trivial, (tf_eqF (a := ((p % 10) + (q % 10))) (b := 9) rfl (rfl : (9 : Int32) = nI 9) (by omega) (by omega) (by omega))⟩ ?_
      exact tf_ret ftX2_mirrored hR rfl ⟨by decide, by decide⟩ rfl rfl (by rw [if_neg (fun h => e2 h.2)]; rfl)
  · refine tf_go hx ftX2_mirrored 2 [true] 27 [some (.int (nI p)), some (.int (nI q))] [.int 0] S rfl ⟨by decide, by decide, rfl⟩ ⟨trivial, (tf_eqF (a := (tf_di (p / 10) (q / 10))) (b := 0) rfl (rfl : (0 : Int32) = nI 0) (by omega) (by omega) (by omega))⟩ ?_
    exact tf_ret ftX2_mirrored hR rfl ⟨by decide, by decide⟩ rfl rfl (by rw [if_neg (fun h => e1 h.1)]; rfl)

def tX1_gapTo : tf_T := [(0, .iload_n 2, 1, 0, 0),
  (1, .invokestatic 18, 4, 0, 0),
  (4, .ifCond .eq 7, 7, 11, 0),
  (7, .sipush 999, 10, 0, 999),
  (10, .ireturn, 11, 0, 0),
  (11, .iload_n 1, 12, 0, 0),
  (12, .invokestatic 18, 15, 0, 0),
  (15, .ifCond .eq 10, 18, 25, 0),
  (18, .aload_n 0, 19, 0, 0),
  (19, .getfield 9, 22, 0, 0),
  (22, .iconst 0, 23, 0, 0),
  (23, .iaload, 24, 0, 0),
  (24, .ireturn, 25, 0, 0),
  (25, .iload_n 1, 26, 0, 0),
  (26, .iload_n 2, 27, 0, 0),
  (27, .iload_n 3, 28, 0, 0),
  (28, .invokestatic 22, 31, 0, 0),
  (31, .tableswitch 78 1 3 #[58, 25, 32], 56, 0, 0),
  (56, .aload_n 0, 57, 0, 0),
  (57, .getfield 9, 60, 0, 0),
  (60, .iconst 2, 61, 0, 2),
  (61, .iaload, 62, 0, 0),
  (62, .ireturn, 63, 0, 0),
  (63, .aload_n 0, 64, 0, 0),
  (64, .getfield 9, 67, 0, 0),
  (67, .iconst 3, 68, 0, 3),
  (68, .iaload, 69, 0, 0),
  (69, .aload_n 0, 70, 0, 0),
  (70, .getfield 9, 73, 0, 0),
  (73, .iconst 4, 74, 0, 4),
  (74, .iaload, 75, 0, 0),
  (75, .iload_n 1, 76, 0, 0),
  (76, .iload_n 2, 77, 0, 0),
  (77, .invokestatic 28, 80, 0, 0),
  (80, .iload_n 1, 81, 0, 0),
  (81, .iload_n 2, 82, 0, 0),
  (82, .invokestatic 32, 85, 0, 0),
  (85, .iadd, 86, 0, 0),
  (86, .imul, 87, 0, 0),
  (87, .iadd, 88, 0, 0),
  (88, .ireturn, 89, 0, 0),
  (89, .aload_n 0, 90, 0, 0),
  (90, .getfield 9, 93, 0, 0),
  (93, .iconst 1, 94, 0, 1),
  (94, .iaload, 95, 0, 0),
  (95, .aload_n 0, 96, 0, 0),
  (96, .getfield 9, 99, 0, 0),
  (99, .iconst 5, 100, 0, 5),
  (100, .iaload, 101, 0, 0),
  (101, .iload_n 1, 102, 0, 0),
  (102, .iload_n 2, 103, 0, 0),
  (103, .invokestatic 32, 106, 0, 0),
  (106, .imul, 107, 0, 0),
  (107, .iadd, 108, 0, 0),
  (108, .ireturn, 109, 0, 0),
  (109, .aload_n 0, 110, 0, 0),
  (110, .getfield 9, 113, 0, 0),
  (113, .iconst 0, 114, 0, 0),
  (114, .iaload, 115, 0, 0),
  (115, .ireturn, 116, 0, 0)]
set_option maxRecDepth 100000 in
theorem okX1_gapTo : tf_okT cX1_gapTo tX1_gapTo := by unfold tf_okT; decide +kernel
theorem ftX1_gapTo : 1 ≤ 4 ∧ tf_okF RX1 fX1 ∧ tf_okT cX1_gapTo tX1_gapTo := ⟨by decide, okfX1, okX1_gapTo⟩
def mX1_gapTo : tf_M := (yX1_gapTo, cX1_gapTo, 4, (some .int))

def tX1_copyFrom : tf_T := [(0, .iconst 0, 1, 0, 0),
  (1, .istore_n 2, 2, 0, 0),
  (2, .iload_n 2, 3, 0, 0),
  (3, .bipush 6, 5, 0, 6),
  (5, .if_icmp .ge 21, 8, 26, 0),
  (8, .aload_n 0, 9, 0, 0),
  (9, .getfield 9, 12, 0, 0),
  (12, .iload_n 2, 13, 0, 0),
  (13, .aload_n 1, 14, 0, 0),
  (14, .getfield 9, 17, 0, 0),
  (17, .iload_n 2, 18, 0, 0),
  (18, .iaload, 19, 0, 0),
  (19, .iastore, 20, 0, 0),
  (20, .iinc 2 1, 23, 0, 1),
  (23, .goto (-21), 26, 2, 0),
  (26, .return_, 27, 0, 0)]
set_option maxRecDepth 100000 in
theorem okX1_copyFrom : tf_okT cX1_copyFrom tX1_copyFrom := by unfold tf_okT; decide +kernel
theorem ftX1_copyFrom : 1 ≤ 1 ∧ tf_okF RX1 fX1 ∧ tf_okT cX1_copyFrom tX1_copyFrom := ⟨by decide, okfX1, okX1_copyFrom⟩
def mX1_copyFrom : tf_M := (yX1_copyFrom, cX1_copyFrom, 3, none)

set_option maxRecDepth 100000 in
theorem lX1_18 : tf_okN RX1 18 1 mX10_noKey := by unfold tf_okN tf_okL; decide +kernel

set_option maxRecDepth 100000 in
theorem lX1_22 : tf_okS RX1 22 3 mX2_lawBetween := by unfold tf_okS tf_okL; decide +kernel

set_option maxRecDepth 100000 in
theorem lX1_28 : tf_okS RX1 28 2 mX2_columnsBetween := by unfold tf_okS tf_okL; decide +kernel

set_option maxRecDepth 100000 in
theorem lX1_32 : tf_okS RX1 32 2 mX2_linesBetween := by unfold tf_okS tf_okL; decide +kernel

/-- GAP by the LAWS L; 30: on no KEY -/
def tf_gL (L : Nat → Nat) (p q t : Nat) : Nat := if q = 30 then 999 else if p = 30 then L 0 else if tf_la p q t = 2 then L 2 else if tf_la p q t = 3 then L 3 + L 4 * (tf_di (p % 10) (q % 10) + tf_di (p / 10) (q / 10)) else if tf_la p q t = 1 then L 1 + L 5 * tf_di (p / 10) (q / 10) else L 0

set_option maxHeartbeats 1000000 in
theorem h_gapTo {G : tf_G} {S : tf_Sg} {o : Nat} {L : Nat → Nat} (p q t : Nat) (hb : tf_hn G o) (hL : ∀ j, j < 6 → S (tf_rf G o 0) j = nI (L j)) (h1 : tf_k1 G S) (hp : p ≤ 30) (hq : q ≤ 30) (ht : t < 2) : tf_Fn mX1_gapTo 4 0 0 G S [.ref o, .int (tf_on 30 p), .int (tf_on 30 q), .int (nI t)] G S (some (.int (nI (tf_gL L p q t)))) := by
  obtain ⟨b1, r0, t0, n0⟩ := id hb
  refine tf_Fn_of (own := RX1) false ⟨by decide, rfl, by decide⟩ (Nat.le_of_ble_eq_true rfl) trivial (fun x hx hR => ?_)
  show tf_K x 0 0 G S 0 [some (.ref o), some (.int (tf_on 30 p)), some (.int (tf_on 30 q)), some (.int (nI t))] []
  by_cases e1 : q = 30
  · rw [show tf_on 30 q = -9 by rw [e1]; rfl]
    refine tf_go hx ftX1_gapTo 1 [] 1 [some (.ref o), some (.int (tf_on 30 p)), some (.int (-9)), some (.int (nI t))] [.int (-9)] S rfl ⟨by decide, by decide, rfl⟩ trivial ?_
    refine tf_cN hx ftX1_gapTo (nx := 4) (As := [.int (-9)]) (rest := []) (st2 := [.int (if ¬ (-9) < 0 ∧ ¬ 30 ≤ (-9) then 0 else 1)]) (c_noKey (-9)) rfl lX1_18 rfl ⟨rfl, by decide, by decide, by decide, rfl, rfl⟩ ?_
    rw [if_neg (show ¬ (¬ (-9 : Int32) < 0 ∧ ¬ 30 ≤ (-9 : Int32)) by decide)]
    refine tf_go hx ftX1_gapTo 1 [false] 7 [some (.ref o), some (.int (tf_on 30 p)), some (.int (-9)), some (.int (nI t))] [] S rfl ⟨by decide, by decide, rfl⟩ ⟨trivial, (by decide)⟩ ?_
    refine tf_go hx ftX1_gapTo 1 [] 10 [some (.ref o), some (.int (tf_on 30 p)), some (.int (-9)), some (.int (nI t))] [.int 999] S rfl ⟨by decide, by decide, rfl⟩ trivial ?_
    exact tf_ret ftX1_gapTo hR rfl ⟨by decide, by decide⟩ rfl rfl (by unfold tf_gL; rw [if_pos e1]; rfl)
  · have hq2 : q < 30 := by omega
    rw [tf_on_y hq2]
    refine tf_go hx ftX1_gapTo 1 [] 1 [some (.ref o), some (.int (tf_on 30 p)), some (.int (nI q)), some (.int (nI t))] [.int (nI q)] S rfl ⟨by decide, by decide, rfl⟩ trivial ?_
    refine tf_cN hx ftX1_gapTo (nx := 4) (As := [.int (nI q)]) (rest := []) (st2 := [.int (if ¬ (nI q) < 0 ∧ ¬ 30 ≤ (nI q) then 0 else 1)]) (c_noKey (nI q)) rfl lX1_18 rfl ⟨rfl, by decide, by decide, by decide, rfl, rfl⟩ ?_
    rw [if_pos (show ¬ nI q < 0 ∧ ¬ 30 ≤ nI q from ⟨tf_ltF (a := q) (b := 0) rfl rfl (by omega) (by omega) (by omega), tf_leF (a := 30) (b := q) rfl rfl (by omega) (by omega) (by omega)⟩)]
    refine tf_go hx ftX1_gapTo 1 [true] 11 [some (.ref o), some (.int (tf_on 30 p)), some (.int (nI q)), some (.int (nI t))] [] S rfl ⟨by decide, by decide, rfl⟩ ⟨trivial, rfl⟩ ?_
    by_cases e2 : p = 30
    · rw [show tf_on 30 p = -9 by rw [e2]; rfl]
      refine tf_go hx ftX1_gapTo 1 [] 12 [some (.ref o), some (.int (-9)), some (.int (nI q)), some (.int (nI t))] [.int (-9)] S rfl ⟨by decide, by decide, rfl⟩ trivial ?_
      refine tf_cN hx ftX1_gapTo (nx := 15) (As := [.int (-9)]) (rest := []) (st2 := [.int (if ¬ (-9) < 0 ∧ ¬ 30 ≤ (-9) then 0 else 1)]) (c_noKey (-9)) rfl lX1_18 rfl ⟨rfl, by decide, by decide, by decide, rfl, rfl⟩ ?_
      rw [if_neg (show ¬ (¬ (-9 : Int32) < 0 ∧ ¬ 30 ≤ (-9 : Int32)) by decide)]
      refine tf_go hx ftX1_gapTo 1 [false] 18 [some (.ref o), some (.int (-9)), some (.int (nI q)), some (.int (nI t))] [] S rfl ⟨by decide, by decide, rfl⟩ ⟨trivial, (by decide)⟩ ?_
      refine tf_go hx ftX1_gapTo 4 [] 24 [some (.ref o), some (.int (-9)), some (.int (nI q)), some (.int (nI t))] [.int (S (tf_rf G o 0) (Int32.toNatClampNeg 0))] S rfl ⟨by decide, by decide, rfl⟩ ⟨⟨trivial, ⟨by first | assumption | rfl | decide | omega, by first | assumption | rfl | decide | omega⟩⟩, ⟨Or.inl (by first | assumption | rfl | decide | omega), by first | assumption | exact tf_in (n := 0) (rfl : (0 : Int32) = nI 0) (by first | assumption | rfl) (by omega) (by decide)⟩⟩ ?_
      rw [show (S (tf_rf G o 0) (Int32.toNatClampNeg 0)) = nI (L 0) from (hL 0 (by decide))]
      exact tf_ret ftX1_gapTo hR rfl ⟨by decide, by decide⟩ rfl rfl (by unfold tf_gL; rw [if_neg e1, if_pos e2]; rfl)
    · have hp2 : p < 30 := by omega
      rw [tf_on_y hp2]
      refine tf_go hx ftX1_gapTo 1 [] 12 [some (.ref o), some (.int (nI p)), some (.int (nI q)), some (.int (nI t))] [.int (nI p)] S rfl ⟨by decide, by decide, rfl⟩ trivial ?_
      refine tf_cN hx ftX1_gapTo (nx := 15) (As := [.int (nI p)]) (rest := []) (st2 := [.int (if ¬ (nI p) < 0 ∧ ¬ 30 ≤ (nI p) then 0 else 1)]) (c_noKey (nI p)) rfl lX1_18 rfl ⟨rfl, by decide, by decide, by decide, rfl, rfl⟩ ?_
      rw [if_pos (show ¬ nI p < 0 ∧ ¬ 30 ≤ nI p from ⟨tf_ltF (a := p) (b := 0) rfl rfl (by omega) (by omega) (by omega), tf_leF (a := 30) (b := p) rfl rfl (by omega) (by omega) (by omega)⟩)]
      refine tf_go hx ftX1_gapTo 1 [true] 25 [some (.ref o), some (.int (nI p)), some (.int (nI q)), some (.int (nI t))] [] S rfl ⟨by decide, by decide, rfl⟩ ⟨trivial, rfl⟩ ?_
      refine tf_go hx ftX1_gapTo 3 [] 28 [some (.ref o), some (.int (nI p)), some (.int (nI q)), some (.int (nI t))] [.int (nI t), .int (nI q), .int (nI p)] S rfl ⟨by decide, by decide, rfl⟩ trivial ?_
      refine tf_cS hx ftX1_gapTo (nx := 31) (As := [.int (nI p), .int (nI q), .int (nI t)]) (rest := []) (st2 := [.int (nI (tf_la p q t))]) (k_law p q t h1 hp2 hq2 ht) rfl lX1_22 rfl ⟨rfl, by decide, by decide, by decide, rfl, rfl⟩ ?_
      have la := tf_la_le p q t
      by_cases a0 : tf_la p q t = 0
      · rw [a0]
        refine tf_swO hx ftX1_gapTo 109 rfl ⟨Or.inl (by decide), by decide⟩ ?_
        refine tf_go hx ftX1_gapTo 4 [] 115 [some (.ref o), some (.int (nI p)), some (.int (nI q)), some (.int (nI t))] [.int (S (tf_rf G o 0) (Int32.toNatClampNeg 0))] S rfl ⟨by decide, by decide, rfl⟩ ⟨⟨trivial, ⟨by first | assumption | rfl | decide | omega, by first | assumption | rfl | decide | omega⟩⟩, ⟨Or.inl (by first | assumption | rfl | decide | omega), by first | assumption | exact tf_in (n := 0) (rfl : (0 : Int32) = nI 0) (by first | assumption | rfl) (by omega) (by decide)⟩⟩ ?_
        rw [show (S (tf_rf G o 0) (Int32.toNatClampNeg 0)) = nI (L 0) from (hL 0 (by decide))]
        exact tf_ret ftX1_gapTo hR rfl ⟨by decide, by decide⟩ rfl rfl (by unfold tf_gL; rw [if_neg e1, if_neg e2, a0]; rfl)
      · by_cases a1 : tf_la p q t = 1
        · rw [a1]
          refine tf_swI hx ftX1_gapTo 89 rfl ⟨by decide, by decide, rfl, by decide⟩ ?_
          refine tf_go hx ftX1_gapTo 4 [] 95 [some (.ref o), some (.int (nI p)), some (.int (nI q)), some (.int (nI t))] [.int (S (tf_rf G o 0) (Int32.toNatClampNeg 1))] S rfl ⟨by decide, by decide, rfl⟩ ⟨⟨trivial, ⟨by first | assumption | rfl | decide | omega, by first | assumption | rfl | decide | omega⟩⟩, ⟨Or.inl (by first | assumption | rfl | decide | omega), by first | assumption | exact tf_in (n := 1) (rfl : (1 : Int32) = nI 1) (by first | assumption | rfl) (by omega) (by decide)⟩⟩ ?_
          rw [show (S (tf_rf G o 0) (Int32.toNatClampNeg 1)) = nI (L 1) from (hL 1 (by decide))]
          refine tf_go hx ftX1_gapTo 4 [] 101 [some (.ref o), some (.int (nI p)), some (.int (nI q)), some (.int (nI t))] [.int (S (tf_rf G o 0) (Int32.toNatClampNeg 5)), .int (nI (L 1))] S rfl ⟨by decide, by decide, rfl⟩ ⟨⟨trivial, ⟨by first | assumption | rfl | decide | omega, by first | assumption | rfl | decide | omega⟩⟩, ⟨Or.inl (by first | assumption | rfl | decide | omega), by first | assumption | exact tf_in (n := 5) (rfl : (5 : Int32) = nI 5) (by first | assumption | rfl) (by omega) (by decide)⟩⟩ ?_
          rw [show (S (tf_rf G o 0) (Int32.toNatClampNeg 5)) = nI (L 5) from (hL 5 (by decide))]
          refine tf_go hx ftX1_gapTo 2 [] 103 [some (.ref o), some (.int (nI p)), some (.int (nI q)), some (.int (nI t))] [.int (nI q), .int (nI p), .int (nI (L 5)), .int (nI (L 1))] S rfl ⟨by decide, by decide, rfl⟩ trivial ?_
          refine tf_cS hx ftX1_gapTo (nx := 106) (As := [.int (nI p), .int (nI q)]) (rest := [.int (nI (L 5)), .int (nI (L 1))]) (st2 := [.int (nI (tf_di (p / 10) (q / 10))), .int (nI (L 5)), .int (nI (L 1))]) (k_lines p q hp2 hq2) rfl lX1_32 rfl ⟨rfl, by decide, by decide, by decide, rfl, rfl⟩ ?_
          refine tf_go hx ftX1_gapTo 1 [] 107 [some (.ref o), some (.int (nI p)), some (.int (nI q)), some (.int (nI t))] [.int ((nI (L 5)) * (nI (tf_di (p / 10) (q / 10)))), .int (nI (L 1))] S rfl ⟨by decide, by decide, rfl⟩ trivial ?_
          rw [show ((nI (L 5)) * (nI (tf_di (p / 10) (q / 10)))) = nI ((L 5) * (tf_di (p / 10) (q / 10))) from (tf_mul (a := (L 5)) (b := (tf_di (p / 10) (q / 10))) rfl rfl)]
          refine tf_go hx ftX1_gapTo 1 [] 108 [some (.ref o), some (.int (nI p)), some (.int (nI q)), some (.int (nI t))] [.int ((nI (L 1)) + (nI ((L 5) * (tf_di (p / 10) (q / 10)))))] S rfl ⟨by decide, by decide, rfl⟩ trivial ?_
          rw [show ((nI (L 1)) + (nI ((L 5) * (tf_di (p / 10) (q / 10))))) = nI ((L 1) + ((L 5) * (tf_di (p / 10) (q / 10)))) from (tf_add (a := (L 1)) (b := ((L 5) * (tf_di (p / 10) (q / 10)))) rfl rfl)]
          exact tf_ret ftX1_gapTo hR rfl ⟨by decide, by decide⟩ rfl rfl (by unfold tf_gL; rw [if_neg e1, if_neg e2, a1]; rfl)
        · by_cases a2 : tf_la p q t = 2
          · rw [a2]
            refine tf_swI hx ftX1_gapTo 56 rfl ⟨by decide, by decide, rfl, by decide⟩ ?_
            refine tf_go hx ftX1_gapTo 4 [] 62 [some (.ref o), some (.int (nI p)), some (.int (nI q)), some (.int (nI t))] [.int (S (tf_rf G o 0) (Int32.toNatClampNeg 2))] S rfl ⟨by decide, by decide, rfl⟩ ⟨⟨trivial, ⟨by first | assumption | rfl | decide | omega, by first | assumption | rfl | decide | omega⟩⟩, ⟨Or.inl (by first | assumption | rfl | decide | omega), by first | assumption | exact tf_in (n := 2) (rfl : (2 : Int32) = nI 2) (by first | assumption | rfl) (by omega) (by decide)⟩⟩ ?_
            rw [show (S (tf_rf G o 0) (Int32.toNatClampNeg 2)) = nI (L 2) from (hL 2 (by decide))]
            exact tf_ret ftX1_gapTo hR rfl ⟨by decide, by decide⟩ rfl rfl (by unfold tf_gL; rw [if_neg e1, if_neg e2, a2]; rfl)
          · have a3 : tf_la p q t = 3 := by omega
            rw [a3]
            refine tf_swI hx ftX1_gapTo 63 rfl ⟨by decide, by decide, rfl, by decide⟩ ?_
            refine tf_go hx ftX1_gapTo 4 [] 69 [some (.ref o), some (.int (nI p)), some (.int (nI q)), some (.int (nI t))] [.int (S (tf_rf G o 0) (Int32.toNatClampNeg 3))] S rfl ⟨by decide, by decide, rfl⟩ ⟨⟨trivial, ⟨by first | assumption | rfl | decide | omega, by first | assumption | rfl | decide | omega⟩⟩, ⟨Or.inl (by first | assumption | rfl | decide | omega), by first | assumption | exact tf_in (n := 3) (rfl : (3 : Int32) = nI 3) (by first | assumption | rfl) (by omega) (by decide)⟩⟩ ?_
            rw [show (S (tf_rf G o 0) (Int32.toNatClampNeg 3)) = nI (L 3) from (hL 3 (by decide))]
            refine tf_go hx ftX1_gapTo 4 [] 75 [some (.ref o), some (.int (nI p)), some (.int (nI q)), some (.int (nI t))] [.int (S (tf_rf G o 0) (Int32.toNatClampNeg 4)), .int (nI (L 3))] S rfl ⟨by decide, by decide, rfl⟩ ⟨⟨trivial, ⟨by first | assumption | rfl | decide | omega, by first | assumption | rfl | decide | omega⟩⟩, ⟨Or.inl (by first | assumption | rfl | decide | omega), by first | assumption | exact tf_in (n := 4) (rfl : (4 : Int32) = nI 4) (by first | assumption | rfl) (by omega) (by decide)⟩⟩ ?_
            rw [show (S (tf_rf G o 0) (Int32.toNatClampNeg 4)) = nI (L 4) from (hL 4 (by decide))]
            refine tf_go hx ftX1_gapTo 2 [] 77 [some (.ref o), some (.int (nI p)), some (.int (nI q)), some (.int (nI t))] [.int (nI q), .int (nI p), .int (nI (L 4)), .int (nI (L 3))] S rfl ⟨by decide, by decide, rfl⟩ trivial ?_
            refine tf_cS hx ftX1_gapTo (nx := 80) (As := [.int (nI p), .int (nI q)]) (rest := [.int (nI (L 4)), .int (nI (L 3))]) (st2 := [.int (nI (tf_di (p % 10) (q % 10))), .int (nI (L 4)), .int (nI (L 3))]) (k_cols p q hp2 hq2) rfl lX1_28 rfl ⟨rfl, by decide, by decide, by decide, rfl, rfl⟩ ?_
            refine tf_go hx ftX1_gapTo 2 [] 82 [some (.ref o), some (.int (nI p)), some (.int (nI q)), some (.int (nI t))] [.int (nI q), .int (nI p), .int (nI (tf_di (p % 10) (q % 10))), .int (nI (L 4)), .int (nI (L 3))] S rfl ⟨by decide, by decide, rfl⟩ trivial ?_
            refine tf_cS hx ftX1_gapTo (nx := 85) (As := [.int (nI p), .int (nI q)]) (rest := [.int (nI (tf_di (p % 10) (q % 10))), .int (nI (L 4)), .int (nI (L 3))]) (st2 := [.int (nI (tf_di (p / 10) (q / 10))), .int (nI (tf_di (p % 10) (q % 10))), .int (nI (L 4)), .int (nI (L 3))]) (k_lines p q hp2 hq2) rfl lX1_32 rfl ⟨rfl, by decide, by decide, by decide, rfl, rfl⟩ ?_
            refine tf_go hx ftX1_gapTo 1 [] 86 [some (.ref o), some (.int (nI p)), some (.int (nI q)), some (.int (nI t))] [.int ((nI (tf_di (p % 10) (q % 10))) + (nI (tf_di (p / 10) (q / 10)))), .int (nI (L 4)), .int (nI (L 3))] S rfl ⟨by decide, by decide, rfl⟩ trivial ?_
            rw [show ((nI (tf_di (p % 10) (q % 10))) + (nI (tf_di (p / 10) (q / 10)))) = nI ((tf_di (p % 10) (q % 10)) + (tf_di (p / 10) (q / 10))) from (tf_add (a := (tf_di (p % 10) (q % 10))) (b := (tf_di (p / 10) (q / 10))) rfl rfl)]
            refine tf_go hx ftX1_gapTo 1 [] 87 [some (.ref o), some (.int (nI p)), some (.int (nI q)), some (.int (nI t))] [.int ((nI (L 4)) * (nI ((tf_di (p % 10) (q % 10)) + (tf_di (p / 10) (q / 10))))), .int (nI (L 3))] S rfl ⟨by decide, by decide, rfl⟩ trivial ?_
            rw [show ((nI (L 4)) * (nI ((tf_di (p % 10) (q % 10)) + (tf_di (p / 10) (q / 10))))) = nI ((L 4) * ((tf_di (p % 10) (q % 10)) + (tf_di (p / 10) (q / 10)))) from (tf_mul (a := (L 4)) (b := ((tf_di (p % 10) (q % 10)) + (tf_di (p / 10) (q / 10)))) rfl rfl)]
            refine tf_go hx ftX1_gapTo 1 [] 88 [some (.ref o), some (.int (nI p)), some (.int (nI q)), some (.int (nI t))] [.int ((nI (L 3)) + (nI ((L 4) * ((tf_di (p % 10) (q % 10)) + (tf_di (p / 10) (q / 10))))))] S rfl ⟨by decide, by decide, rfl⟩ trivial ?_
            rw [show ((nI (L 3)) + (nI ((L 4) * ((tf_di (p % 10) (q % 10)) + (tf_di (p / 10) (q / 10)))))) = nI ((L 3) + ((L 4) * ((tf_di (p % 10) (q % 10)) + (tf_di (p / 10) (q / 10))))) from (tf_add (a := (L 3)) (b := ((L 4) * ((tf_di (p % 10) (q % 10)) + (tf_di (p / 10) (q / 10))))) rfl rfl)]
            exact tf_ret ftX1_gapTo hR rfl ⟨by decide, by decide⟩ rfl rfl (by unfold tf_gL; rw [if_neg e1, if_neg e2, a3]; rfl)

/-- the first n places of a row become these -/
def tf_wn (S : tf_Sg) (a n : Nat) (f : Nat → Int32) : tf_Sg := fun x j => if x = a ∧ j < n then f j else S x j
theorem tf_wn_0 {S : tf_Sg} {a : Nat} {f : Nat → Int32} : tf_wn S a 0 f = S := by
  funext x j
  show (if x = a ∧ j < 0 then f j else S x j) = S x j
  rw [if_neg (fun h => absurd h.2 (Nat.not_lt_zero j))]
theorem tf_wn_s {S : tf_Sg} {a k : Nat} {f : Nat → Int32} : tf_set (tf_wn S a k f) a k (f k) = tf_wn S a (k + 1) f := by
  funext x j
  show (if x = a ∧ j = k then f k else if x = a ∧ j < k then f j else S x j) = (if x = a ∧ j < k + 1 then f j else S x j)
  by_cases h : x = a
  · by_cases h1 : j = k
    · rw [if_pos ⟨h, h1⟩, if_pos ⟨h, by omega⟩, h1]
    · rw [if_neg (fun q => h1 q.2)]
      by_cases h2 : j < k
      · rw [if_pos ⟨h, h2⟩, if_pos ⟨h, by omega⟩]
      · rw [if_neg (fun q => h2 q.2), if_neg (fun q => absurd q.2 (by omega))]
  · rw [if_neg (fun q => h q.1), if_neg (fun q => h q.1), if_neg (fun q => h q.1)]
theorem tf_wn_n {S : tf_Sg} {a n x : Nat} {f : Nat → Int32} (h : x ≠ a) : tf_wn S a n f x = S x := by
  funext j
  show (if x = a ∧ j < n then f j else S x j) = S x j
  rw [if_neg (fun q => h q.1)]

set_option maxHeartbeats 1000000 in
theorem h_copyFrom {G : tf_G} {S : tf_Sg} {o q : Nat} (hb : tf_hn G o) (hb2 : tf_hn G q) (na : tf_rf G q 0 ≠ tf_rf G o 0) : tf_Fn mX1_copyFrom 1 0 0 G S [.ref o, .ref q] G (tf_wn S (tf_rf G o 0) 6 (fun j => S (tf_rf G q 0) j)) none := by
  obtain ⟨b1, r0, t0, n0⟩ := id hb
  obtain ⟨g1, s0, u0, m0⟩ := id hb2
  refine tf_Fn_of (own := RX1) false ⟨by decide, rfl, by decide⟩ (Nat.le_of_ble_eq_true rfl) trivial (fun x hx hR => ?_)
  show tf_K x 0 0 G S 0 [some (.ref o), some (.ref q), none] []
  refine tf_go hx ftX1_copyFrom 2 [] 2 [some (.ref o), some (.ref q), some (.int 0)] [] S rfl ⟨by decide, by decide, rfl⟩ trivial ?_
  have loop : ∀ (m k : Nat), k + m = 6 → tf_K x 0 0 G (tf_wn S (tf_rf G o 0) k (fun j => S (tf_rf G q 0) j)) 2 [some (.ref o), some (.ref q), some (.int (nI k))] [] := by
    intro m
    induction m with
    | zero =>
      intro k hk
      refine tf_go hx ftX1_copyFrom 2 [] 5 [some (.ref o), some (.ref q), some (.int (nI k))] [.int 6, .int (nI k)] (tf_wn S (tf_rf G o 0) k (fun j => S (tf_rf G q 0) j)) rfl ⟨by decide, by decide, rfl⟩ trivial ?_
      refine tf_go hx ftX1_copyFrom 1 [true] 26 [some (.ref o), some (.ref q), some (.int (nI k))] [] (tf_wn S (tf_rf G o 0) k (fun j => S (tf_rf G q 0) j)) rfl ⟨by decide, by decide, rfl⟩ ⟨trivial, (tf_leT (a := 6) (b := k) (rfl : (6 : Int32) = nI 6) rfl (by omega) (by omega) (by omega))⟩ ?_
      exact tf_ret ftX1_copyFrom hR rfl ⟨by decide, by decide⟩ rfl (by rw [show k = 6 by omega]) rfl
    | succ m ih =>
      intro k hk
      refine tf_go hx ftX1_copyFrom 2 [] 5 [some (.ref o), some (.ref q), some (.int (nI k))] [.int 6, .int (nI k)] (tf_wn S (tf_rf G o 0) k (fun j => S (tf_rf G q 0) j)) rfl ⟨by decide, by decide, rfl⟩ trivial ?_
      refine tf_go hx ftX1_copyFrom 1 [false] 8 [some (.ref o), some (.ref q), some (.int (nI k))] [] (tf_wn S (tf_rf G o 0) k (fun j => S (tf_rf G q 0) j)) rfl ⟨by decide, by decide, rfl⟩ ⟨trivial, (tf_leF (a := 6) (b := k) (rfl : (6 : Int32) = nI 6) rfl (by omega) (by omega) (by omega))⟩ ?_
      refine tf_go hx ftX1_copyFrom 7 [] 19 [some (.ref o), some (.ref q), some (.int (nI k))] [.int ((tf_wn S (tf_rf G o 0) k (fun j => S (tf_rf G q 0) j)) (tf_rf G q 0) (Int32.toNatClampNeg (nI k))), .int (nI k), .ref (tf_rf G o 0)] (tf_wn S (tf_rf G o 0) k (fun j => S (tf_rf G q 0) j)) rfl ⟨by decide, by decide, rfl⟩ ⟨⟨⟨trivial, ⟨by first | assumption | rfl | decide | omega, by first | assumption | rfl | decide | omega⟩⟩, ⟨by first | assumption | rfl | decide | omega, by first | assumption | rfl | decide | omega⟩⟩, ⟨Or.inl (by first | assumption | rfl | decide | omega), by first | assumption | exact tf_in (n := k) rfl (by first | assumption | rfl) (by omega) (by decide)⟩⟩ ?_
      rw [show ((tf_wn S (tf_rf G o 0) k (fun j => S (tf_rf G q 0) j)) (tf_rf G q 0) (Int32.toNatClampNeg (nI k))) = S (tf_rf G q 0) k by rw [tf_cl_nI (by omega), tf_wn_n na]]
      refine tf_go hx ftX1_copyFrom 1 [] 20 [some (.ref o), some (.ref q), some (.int (nI k))] [] (tf_set (tf_wn S (tf_rf G o 0) k (fun j => S (tf_rf G q 0) j)) (tf_rf G o 0) (Int32.toNatClampNeg (nI k)) (S (tf_rf G q 0) k)) rfl ⟨by decide, by decide, rfl⟩ ⟨trivial, ⟨by first | assumption | rfl | decide | omega, by first | assumption | exact tf_in (n := k) rfl (by first | assumption | rfl) (by omega) (by decide)⟩⟩ ?_
      rw [show Int32.toNatClampNeg (nI k) = k from tf_cln rfl (by omega)]
      rw [show tf_set (tf_wn S (tf_rf G o 0) k (fun j => S (tf_rf G q 0) j)) (tf_rf G o 0) k (S (tf_rf G q 0) k) = (tf_wn S (tf_rf G o 0) (k + 1) (fun j => S (tf_rf G q 0) j)) from tf_wn_s]
      refine tf_go hx ftX1_copyFrom 2 [] 2 [some (.ref o), some (.ref q), some (.int ((nI k) + 1))] [] (tf_wn S (tf_rf G o 0) (k + 1) (fun j => S (tf_rf G q 0) j)) rfl ⟨by decide, by decide, rfl⟩ trivial ?_
      rw [show ((nI k) + 1) = nI (k + 1) from (tf_add (a := k) (b := 1) rfl (rfl : (1 : Int32) = nI 1))]
      exact ih (k + 1) (by omega)
  have h0 := loop 6 0 (by omega)
  rw [tf_wn_0] at h0
  exact h0

