def tX0_letterAt : tf_T := [(0, .iload_n 1, 1, 0, 0),
  (1, .invokestatic 21, 4, 0, 0),
  (4, .ifCond .eq 8, 7, 12, 0),
  (7, .bipush (-9), 9, 0, (-9)),
  (9, .goto 9, 12, 18, 0),
  (12, .aload_n 0, 13, 0, 0),
  (13, .getfield 9, 16, 0, 0),
  (16, .iload_n 1, 17, 0, 0),
  (17, .iaload, 18, 0, 0),
  (18, .ireturn, 19, 0, 0)]
set_option maxRecDepth 100000 in
theorem okX0_letterAt : tf_okT cX0_letterAt tX0_letterAt := by unfold tf_okT; decide +kernel
theorem ftX0_letterAt : 1 ≤ 2 ∧ tf_okF RX0 fX0 ∧ tf_okT cX0_letterAt tX0_letterAt := ⟨by decide, okfX0, okX0_letterAt⟩
def mX0_letterAt : tf_M := (yX0_letterAt, cX0_letterAt, 2, (some .int))

def tX0_lay : tf_T := [(0, .iload_n 1, 1, 0, 0),
  (1, .invokestatic 21, 4, 0, 0),
  (4, .ifCond .eq 4, 7, 8, 0),
  (7, .return_, 8, 0, 0),
  (8, .aload_n 0, 9, 0, 0),
  (9, .getfield 9, 12, 0, 0),
  (12, .iload_n 1, 13, 0, 0),
  (13, .iload_n 2, 14, 0, 0),
  (14, .iastore, 15, 0, 0),
  (15, .iload_n 2, 16, 0, 0),
  (16, .ifCond .lt 16, 19, 32, 0),
  (19, .iload_n 2, 20, 0, 0),
  (20, .bipush 26, 22, 0, 26),
  (22, .if_icmp .ge 10, 25, 32, 0),
  (25, .aload_n 0, 26, 0, 0),
  (26, .getfield 15, 29, 0, 0),
  (29, .iload_n 2, 30, 0, 0),
  (30, .iload_n 1, 31, 0, 0),
  (31, .iastore, 32, 0, 0),
  (32, .return_, 33, 0, 0)]
set_option maxRecDepth 100000 in
theorem okX0_lay : tf_okT cX0_lay tX0_lay := by unfold tf_okT; decide +kernel
theorem ftX0_lay : 1 ≤ 2 ∧ tf_okF RX0 fX0 ∧ tf_okT cX0_lay tX0_lay := ⟨by decide, okfX0, okX0_lay⟩
def mX0_lay : tf_M := (yX0_lay, cX0_lay, 3, none)

def tX0_swap : tf_T := [(0, .iload_n 1, 1, 0, 0),
  (1, .invokestatic 21, 4, 0, 0),
  (4, .ifCond .ne 34, 7, 38, 0),
  (7, .iload_n 2, 8, 0, 0),
  (8, .invokestatic 21, 11, 0, 0),
  (11, .ifCond .ne 27, 14, 38, 0),
  (14, .aload_n 0, 15, 0, 0),
  (15, .getfield 9, 18, 0, 0),
  (18, .iload_n 1, 19, 0, 0),
  (19, .iaload, 20, 0, 0),
  (20, .istore_n 3, 21, 0, 0),
  (21, .aload_n 0, 22, 0, 0),
  (22, .iload_n 1, 23, 0, 0),
  (23, .aload_n 0, 24, 0, 0),
  (24, .getfield 9, 27, 0, 0),
  (27, .iload_n 2, 28, 0, 0),
  (28, .iaload, 29, 0, 0),
  (29, .invokevirtual 36, 32, 0, 0),
  (32, .aload_n 0, 33, 0, 0),
  (33, .iload_n 2, 34, 0, 0),
  (34, .iload_n 3, 35, 0, 0),
  (35, .invokevirtual 36, 38, 0, 0),
  (38, .return_, 39, 0, 0)]
set_option maxRecDepth 100000 in
theorem okX0_swap : tf_okT cX0_swap tX0_swap := by unfold tf_okT; decide +kernel
theorem ftX0_swap : 1 ≤ 3 ∧ tf_okF RX0 fX0 ∧ tf_okT cX0_swap tX0_swap := ⟨by decide, okfX0, okX0_swap⟩
def mX0_swap : tf_M := (yX0_swap, cX0_swap, 4, none)

def tX0_copyFrom : tf_T := [(0, .aload_n 0, 1, 0, 0),
  (1, .invokevirtual 18, 4, 0, 0),
  (4, .iconst 0, 5, 0, 0),
  (5, .istore_n 2, 6, 0, 0),
  (6, .iload_n 2, 7, 0, 0),
  (7, .bipush 30, 9, 0, 30),
  (9, .if_icmp .ge 19, 12, 28, 0),
  (12, .aload_n 0, 13, 0, 0),
  (13, .iload_n 2, 14, 0, 0),
  (14, .aload_n 1, 15, 0, 0),
  (15, .iload_n 2, 16, 0, 0),
  (16, .invokevirtual 40, 19, 0, 0),
  (19, .invokevirtual 36, 22, 0, 0),
  (22, .iinc 2 1, 25, 0, 1),
  (25, .goto (-19), 28, 6, 0),
  (28, .return_, 29, 0, 0)]
set_option maxRecDepth 100000 in
theorem okX0_copyFrom : tf_okT cX0_copyFrom tX0_copyFrom := by unfold tf_okT; decide +kernel
theorem ftX0_copyFrom : 1 ≤ 3 ∧ tf_okF RX0 fX0 ∧ tf_okT cX0_copyFrom tX0_copyFrom := ⟨by decide, okfX0, okX0_copyFrom⟩
def mX0_copyFrom : tf_M := (yX0_copyFrom, cX0_copyFrom, 3, none)

def tX0_readFrom : tf_T := [(0, .aload_n 0, 1, 0, 0),
  (1, .invokevirtual 18, 4, 0, 0),
  (4, .iconst 0, 5, 0, 0),
  (5, .istore_n 2, 6, 0, 0),
  (6, .iconst 0, 7, 0, 0),
  (7, .istore_n 3, 8, 0, 0),
  (8, .iload_n 3, 9, 0, 0),
  (9, .bipush 30, 11, 0, 30),
  (11, .if_icmp .ge 42, 14, 53, 0),
  (14, .aload_n 1, 15, 0, 0),
  (15, .iload_n 3, 16, 0, 0),
  (16, .iload_n 3, 17, 0, 0),
  (17, .bipush 10, 19, 0, 10),
  (19, .idiv, 20, 0, 0),
  (20, .iadd, 21, 0, 0),
  (21, .invokevirtual 25, 24, 0, 0),
  (24, .istore 4, 26, 0, 0),
  (26, .iload 4, 28, 0, 0),
  (28, .invokestatic 31, 31, 0, 0),
  (31, .ifCond .eq 16, 34, 47, 0),
  (34, .aload_n 0, 35, 0, 0),
  (35, .iload_n 3, 36, 0, 0),
  (36, .iload 4, 38, 0, 0),
  (38, .bipush 97, 40, 0, 97),
  (40, .isub, 41, 0, 0),
  (41, .invokevirtual 36, 44, 0, 0),
  (44, .iinc 2 1, 47, 0, 1),
  (47, .iinc 3 1, 50, 0, 1),
  (50, .goto (-42), 53, 8, 0),
  (53, .iload_n 2, 54, 0, 0),
  (54, .ireturn, 55, 0, 0)]
set_option maxRecDepth 100000 in
theorem okX0_readFrom : tf_okT cX0_readFrom tX0_readFrom := by unfold tf_okT; decide +kernel
theorem ftX0_readFrom : 1 ≤ 3 ∧ tf_okF RX0 fX0 ∧ tf_okT cX0_readFrom tX0_readFrom := ⟨by decide, okfX0, okX0_readFrom⟩
def mX0_readFrom : tf_M := (yX0_readFrom, cX0_readFrom, 5, (some .int))

set_option maxRecDepth 100000 in
theorem lX0_21 : tf_okN RX0 21 1 mX10_noKey := by unfold tf_okN tf_okL; decide +kernel

set_option maxRecDepth 100000 in
theorem lX0_25 : tf_okV RX0 25 1 3 mX5_at := by unfold tf_okV tf_okL; decide +kernel

set_option maxRecDepth 100000 in
theorem lX0_31 : tf_okS RX0 31 1 mX4_isLetter := by unfold tf_okS tf_okL; decide +kernel

set_option maxRecDepth 100000 in
theorem lX0_36 : tf_okV RX0 36 2 0 mX0_lay := by unfold tf_okV tf_okL; decide +kernel

set_option maxRecDepth 100000 in
theorem lX0_40 : tf_okV RX0 40 1 0 mX0_letterAt := by unfold tf_okV tf_okL; decide +kernel

set_option maxHeartbeats 1000000 in
theorem b_letterAt {G : tf_G} {S : tf_Sg} {o : Nat} (k : Int32) (hb : tf_bd G o) : tf_Fn mX0_letterAt 2 0 0 G S [.ref o, .int k] G S (some (.int (if ¬ k < 0 ∧ ¬ 30 ≤ k then S (tf_rf G o 0) k.toNatClampNeg else (-9)))) := by
  obtain ⟨b1, ⟨r0, t0, n0⟩, ⟨r1, t1, n1⟩, nn⟩ := id hb
  refine tf_Fn_of (own := RX0) false ⟨by decide, rfl, by decide⟩ (Nat.le_of_ble_eq_true rfl) trivial (fun x hx hR => ?_)
  show tf_K x 0 0 G S 0 [some (.ref o), some (.int k)] []
  by_cases c1 : ¬ k < 0 ∧ ¬ 30 ≤ k
  · have h6 : vp_in k (tf_ln G (tf_rf G o 0)) := by rw [n0]; exact tf_nlt (n := 30) c1.1 c1.2 (Nat.le_refl _) (by decide)
    refine tf_go hx ftX0_letterAt 1 [] 1 [some (.ref o), some (.int k)] [.int k] S rfl ⟨by decide, by decide, rfl⟩ trivial ?_
    refine tf_cN hx ftX0_letterAt (nx := 4) (As := [.int k]) (rest := []) (st2 := [.int (if ¬ k < 0 ∧ ¬ 30 ≤ k then 0 else 1)]) (c_noKey k) rfl lX0_21 rfl ⟨rfl, by decide, by decide, by decide, rfl, rfl⟩ ?_
    rw [if_pos c1]
    refine tf_go hx ftX0_letterAt 5 [true] 18 [some (.ref o), some (.int k)] [.int (S (tf_rf G o 0) (Int32.toNatClampNeg k))] S rfl ⟨by decide, by decide, rfl⟩ ⟨⟨⟨trivial, rfl⟩, ⟨by first | assumption | rfl | decide | omega, by first | assumption | rfl | decide | omega⟩⟩, ⟨Or.inl (by first | assumption | rfl | decide | omega), by first | assumption | rfl | decide | omega⟩⟩ ?_
    exact tf_ret ftX0_letterAt hR rfl ⟨by decide, by decide⟩ rfl rfl (by rw [if_pos c1]; rfl)
  · refine tf_go hx ftX0_letterAt 1 [] 1 [some (.ref o), some (.int k)] [.int k] S rfl ⟨by decide, by decide, rfl⟩ trivial ?_
    refine tf_cN hx ftX0_letterAt (nx := 4) (As := [.int k]) (rest := []) (st2 := [.int (if ¬ k < 0 ∧ ¬ 30 ≤ k then 0 else 1)]) (c_noKey k) rfl lX0_21 rfl ⟨rfl, by decide, by decide, by decide, rfl, rfl⟩ ?_
    rw [if_neg c1]
    refine tf_go hx ftX0_letterAt 3 [false] 18 [some (.ref o), some (.int k)] [.int (-9)] S rfl ⟨by decide, by decide, rfl⟩ ⟨trivial, (by decide)⟩ ?_
    exact tf_ret ftX0_letterAt hR rfl ⟨by decide, by decide⟩ rfl rfl (by rw [if_neg c1]; rfl)

set_option maxHeartbeats 1000000 in
theorem b_keyAt {G : tf_G} {S : tf_Sg} {o : Nat} (k : Int32) (hb : tf_bd G o) : tf_Fn mX0_keyAt 1 0 0 G S [.ref o, .int k] G S (some (.int (if ¬ k < 0 ∧ ¬ 26 ≤ k then S (tf_rf G o 1) k.toNatClampNeg else (-9)))) := by
  obtain ⟨b1, ⟨r0, t0, n0⟩, ⟨r1, t1, n1⟩, nn⟩ := id hb
  refine tf_Fn_of (own := RX0) false ⟨by decide, rfl, by decide⟩ (Nat.le_of_ble_eq_true rfl) trivial (fun x hx hR => ?_)
  show tf_K x 0 0 G S 0 [some (.ref o), some (.int k)] []
  by_cases c1 : k < 0
  · refine tf_go hx ftX0_keyAt 4 [true] 21 [some (.ref o), some (.int k)] [.int (-9)] S rfl ⟨by decide, by decide, rfl⟩ ⟨trivial, (by first | assumption | rfl | decide | omega)⟩ ?_
    exact tf_ret ftX0_keyAt hR rfl ⟨by decide, by decide⟩ rfl rfl (by rw [if_neg (by rintro ⟨h, -⟩; exact h c1)]; rfl)
  · by_cases c2 : k < 26
    · have h6 : vp_in k (tf_ln G (tf_rf G o 1)) := by rw [n1]; exact tf_nlt (n := 26) c1 (Int32.not_le.mpr c2) (Nat.le_refl _) (by decide)
      refine tf_go hx ftX0_keyAt 9 [false, true] 21 [some (.ref o), some (.int k)] [.int (S (tf_rf G o 1) (Int32.toNatClampNeg k))] S rfl ⟨by decide, by decide, rfl⟩ ⟨⟨⟨⟨trivial, (by first | assumption | rfl | decide | omega)⟩, (by first | assumption | rfl | decide | omega)⟩, ⟨by first | assumption | rfl | decide | omega, by first | assumption | rfl | decide | omega⟩⟩, ⟨Or.inl (by first | assumption | rfl | decide | omega), by first | assumption | rfl | decide | omega⟩⟩ ?_
      exact tf_ret ftX0_keyAt hR rfl ⟨by decide, by decide⟩ rfl rfl (by rw [if_pos ⟨c1, Int32.not_le.mpr c2⟩]; rfl)
    · refine tf_go hx ftX0_keyAt 7 [false, false] 21 [some (.ref o), some (.int k)] [.int (-9)] S rfl ⟨by decide, by decide, rfl⟩ ⟨⟨trivial, (by first | assumption | rfl | decide | omega)⟩, (by first | assumption | rfl | decide | omega)⟩ ?_
      exact tf_ret ftX0_keyAt hR rfl ⟨by decide, by decide⟩ rfl rfl (by rw [if_neg (by rintro ⟨-, h⟩; exact h (Int32.not_lt.mp c2))]; rfl)

set_option maxHeartbeats 1000000 in
theorem b_lay0 {G : tf_G} {S : tf_Sg} {o : Nat} {k : Nat} (hb : tf_bd G o) (hk : k < 30) : tf_Fn mX0_lay 2 0 0 G S [.ref o, .int (nI k), .int (-9)] G (tf_set S (tf_rf G o 0) k (-9)) none := by
  obtain ⟨b1, ⟨r0, t0, n0⟩, ⟨r1, t1, n1⟩, nn⟩ := id hb
  refine tf_Fn_of (own := RX0) false ⟨by decide, rfl, by decide⟩ (Nat.le_of_ble_eq_true rfl) trivial (fun x hx hR => ?_)
  show tf_K x 0 0 G S 0 [some (.ref o), some (.int (nI k)), some (.int (-9))] []
  have c1 : ¬ nI k < 0 ∧ ¬ 30 ≤ nI k := ⟨tf_ltF (a := k) (b := 0) rfl rfl (by omega) (by omega) (by omega), tf_leF (a := 30) (b := k) rfl rfl (by omega) (by omega) (by omega)⟩
  refine tf_go hx ftX0_lay 1 [] 1 [some (.ref o), some (.int (nI k)), some (.int (-9))] [.int (nI k)] S rfl ⟨by decide, by decide, rfl⟩ trivial ?_
  refine tf_cN hx ftX0_lay (nx := 4) (As := [.int (nI k)]) (rest := []) (st2 := [.int (if ¬ (nI k) < 0 ∧ ¬ 30 ≤ (nI k) then 0 else 1)]) (c_noKey (nI k)) rfl lX0_21 rfl ⟨rfl, by decide, by decide, by decide, rfl, rfl⟩ ?_
  rw [if_pos c1]
  refine tf_go hx ftX0_lay 1 [true] 8 [some (.ref o), some (.int (nI k)), some (.int (-9))] [] S rfl ⟨by decide, by decide, rfl⟩ ⟨trivial, rfl⟩ ?_
  refine tf_go hx ftX0_lay 4 [] 14 [some (.ref o), some (.int (nI k)), some (.int (-9))] [.int (-9), .int (nI k), .ref (tf_rf G o 0)] S rfl ⟨by decide, by decide, rfl⟩ ⟨trivial, ⟨by first | assumption | rfl | decide | omega, by first | assumption | rfl | decide | omega⟩⟩ ?_
  refine tf_go hx ftX0_lay 1 [] 15 [some (.ref o), some (.int (nI k)), some (.int (-9))] [] (tf_set S (tf_rf G o 0) (Int32.toNatClampNeg (nI k)) (-9)) rfl ⟨by decide, by decide, rfl⟩ ⟨trivial, ⟨by first | assumption | rfl | decide | omega, by first | assumption | exact tf_in (n := k) rfl (by first | assumption | rfl) (by omega) (by decide)⟩⟩ ?_
  rw [show Int32.toNatClampNeg (nI k) = k from tf_cln rfl (by omega)]
  refine tf_go hx ftX0_lay 2 [true] 32 [some (.ref o), some (.int (nI k)), some (.int (-9))] [] (tf_set S (tf_rf G o 0) k (-9)) rfl ⟨by decide, by decide, rfl⟩ ⟨trivial, (by decide)⟩ ?_
  exact tf_ret ftX0_lay hR rfl ⟨by decide, by decide⟩ rfl rfl rfl

set_option maxHeartbeats 1000000 in
theorem b_lay1 {G : tf_G} {S : tf_Sg} {o : Nat} {k l : Nat} (hb : tf_bd G o) (hk : k < 30) (hl : l < 26) : tf_Fn mX0_lay 2 0 0 G S [.ref o, .int (nI k), .int (nI l)] G (tf_set (tf_set S (tf_rf G o 0) k (nI l)) (tf_rf G o 1) l (nI k)) none := by
  obtain ⟨b1, ⟨r0, t0, n0⟩, ⟨r1, t1, n1⟩, nn⟩ := id hb
  refine tf_Fn_of (own := RX0) false ⟨by decide, rfl, by decide⟩ (Nat.le_of_ble_eq_true rfl) trivial (fun x hx hR => ?_)
  show tf_K x 0 0 G S 0 [some (.ref o), some (.int (nI k)), some (.int (nI l))] []
  have c1 : ¬ nI k < 0 ∧ ¬ 30 ≤ nI k := ⟨tf_ltF (a := k) (b := 0) rfl rfl (by omega) (by omega) (by omega), tf_leF (a := 30) (b := k) rfl rfl (by omega) (by omega) (by omega)⟩
  refine tf_go hx ftX0_lay 1 [] 1 [some (.ref o), some (.int (nI k)), some (.int (nI l))] [.int (nI k)] S rfl ⟨by decide, by decide, rfl⟩ trivial ?_
  refine tf_cN hx ftX0_lay (nx := 4) (As := [.int (nI k)]) (rest := []) (st2 := [.int (if ¬ (nI k) < 0 ∧ ¬ 30 ≤ (nI k) then 0 else 1)]) (c_noKey (nI k)) rfl lX0_21 rfl ⟨rfl, by decide, by decide, by decide, rfl, rfl⟩ ?_
  rw [if_pos c1]
  refine tf_go hx ftX0_lay 1 [true] 8 [some (.ref o), some (.int (nI k)), some (.int (nI l))] [] S rfl ⟨by decide, by decide, rfl⟩ ⟨trivial, rfl⟩ ?_
  refine tf_go hx ftX0_lay 4 [] 14 [some (.ref o), some (.int (nI k)), some (.int (nI l))] [.int (nI l), .int (nI k), .ref (tf_rf G o 0)] S rfl ⟨by decide, by decide, rfl⟩ ⟨trivial, ⟨by first | assumption | rfl | decide | omega, by first | assumption | rfl | decide | omega⟩⟩ ?_
  refine tf_go hx ftX0_lay 1 [] 15 [some (.ref o), some (.int (nI k)), some (.int (nI l))] [] (tf_set S (tf_rf G o 0) (Int32.toNatClampNeg (nI k)) (nI l)) rfl ⟨by decide, by decide, rfl⟩ ⟨trivial, ⟨by first | assumption | rfl | decide | omega, by first | assumption | exact tf_in (n := k) rfl (by first | assumption | rfl) (by omega) (by decide)⟩⟩ ?_
  rw [show Int32.toNatClampNeg (nI k) = k from tf_cln rfl (by omega)]
  refine tf_go hx ftX0_lay 10 [false, false] 32 [some (.ref o), some (.int (nI k)), some (.int (nI l))] [] (tf_set (tf_set S (tf_rf G o 0) k (nI l)) (tf_rf G o 1) (Int32.toNatClampNeg (nI l)) (nI k)) rfl ⟨by decide, by decide, rfl⟩ ⟨⟨⟨⟨trivial, (tf_ltF (a := l) (b := 0) rfl (rfl : (0 : Int32) = nI 0) (by omega) (by omega) (by omega))⟩, (tf_leF (a := 26) (b := l) (rfl : (26 : Int32) = nI 26) rfl (by omega) (by omega) (by omega))⟩, ⟨by first | assumption | rfl | decide | omega, by first | assumption | rfl | decide | omega⟩⟩, ⟨by first | assumption | rfl | decide | omega, by first | assumption | exact tf_in (n := l) rfl (by first | assumption | rfl) (by omega) (by decide)⟩⟩ ?_
  rw [show Int32.toNatClampNeg (nI l) = l from tf_cln rfl (by omega)]
  exact tf_ret ftX0_lay hR rfl ⟨by decide, by decide⟩ rfl rfl rfl

