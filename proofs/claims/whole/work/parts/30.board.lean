def fX0 : tf_F := [(3, 102, 0), (9, 0, 0), (15, 0, 1)]
set_option maxRecDepth 100000 in
theorem okfX0 : tf_okF RX0 fX0 := by unfold tf_okF; decide +kernel

def tX0_empty : tf_T := [(0, .iconst 0, 1, 0, 0),
  (1, .istore_n 1, 2, 0, 0),
  (2, .iload_n 1, 3, 0, 0),
  (3, .bipush 30, 5, 0, 30),
  (5, .if_icmp .ge 17, 8, 22, 0),
  (8, .aload_n 0, 9, 0, 0),
  (9, .getfield 9, 12, 0, 0),
  (12, .iload_n 1, 13, 0, 0),
  (13, .bipush (-9), 15, 0, (-9)),
  (15, .iastore, 16, 0, 0),
  (16, .iinc 1 1, 19, 0, 1),
  (19, .goto (-17), 22, 2, 0),
  (22, .iconst 0, 23, 0, 0),
  (23, .istore_n 1, 24, 0, 0),
  (24, .iload_n 1, 25, 0, 0),
  (25, .bipush 26, 27, 0, 26),
  (27, .if_icmp .ge 17, 30, 44, 0),
  (30, .aload_n 0, 31, 0, 0),
  (31, .getfield 15, 34, 0, 0),
  (34, .iload_n 1, 35, 0, 0),
  (35, .bipush (-9), 37, 0, (-9)),
  (37, .iastore, 38, 0, 0),
  (38, .iinc 1 1, 41, 0, 1),
  (41, .goto (-17), 44, 24, 0),
  (44, .return_, 45, 0, 0)]
set_option maxRecDepth 100000 in
theorem okX0_empty : tf_okT cX0_empty tX0_empty := by unfold tf_okT; decide +kernel
theorem ftX0_empty : 1 ≤ 1 ∧ tf_okF RX0 fX0 ∧ tf_okT cX0_empty tX0_empty := ⟨by decide, okfX0, okX0_empty⟩
def mX0_empty : tf_M := (yX0_empty, cX0_empty, 2, none)

def tX0_keyAt : tf_T := [(0, .iload_n 1, 1, 0, 0),
  (1, .ifCond .lt 9, 4, 10, 0),
  (4, .iload_n 1, 5, 0, 0),
  (5, .bipush 26, 7, 0, 26),
  (7, .if_icmp .lt 8, 10, 15, 0),
  (10, .bipush (-9), 12, 0, (-9)),
  (12, .goto 9, 15, 21, 0),
  (15, .aload_n 0, 16, 0, 0),
  (16, .getfield 15, 19, 0, 0),
  (19, .iload_n 1, 20, 0, 0),
  (20, .iaload, 21, 0, 0),
  (21, .ireturn, 22, 0, 0)]
set_option maxRecDepth 100000 in
theorem okX0_keyAt : tf_okT cX0_keyAt tX0_keyAt := by unfold tf_okT; decide +kernel
theorem ftX0_keyAt : 1 ≤ 1 ∧ tf_okF RX0 fX0 ∧ tf_okT cX0_keyAt tX0_keyAt := ⟨by decide, okfX0, okX0_keyAt⟩
def mX0_keyAt : tf_M := (yX0_keyAt, cX0_keyAt, 2, (some .int))

def tX0_init : tf_T := [(0, .aload_n 0, 1, 0, 0),
  (1, .invokespecial 3, 4, 0, 0),
  (4, .aload_n 0, 5, 0, 0),
  (5, .bipush 30, 7, 0, 30),
  (7, .newarray .int, 9, 0, 0),
  (9, .putfield 9, 12, 0, 0),
  (12, .aload_n 0, 13, 0, 0),
  (13, .bipush 26, 15, 0, 26),
  (15, .newarray .int, 17, 0, 0),
  (17, .putfield 15, 20, 0, 0),
  (20, .aload_n 0, 21, 0, 0),
  (21, .invokevirtual 18, 24, 0, 0),
  (24, .return_, 25, 0, 0)]
set_option maxRecDepth 100000 in
theorem okX0_init : tf_okT cX0_init tX0_init := by unfold tf_okT; decide +kernel
theorem ftX0_init : 1 ≤ 2 ∧ tf_okF RX0 fX0 ∧ tf_okT cX0_init tX0_init := ⟨by decide, okfX0, okX0_init⟩
def mX0_init : tf_M := (yX0_init, cX0_init, 1, none)

set_option maxRecDepth 100000 in
theorem lX0_18 : tf_okV RX0 18 0 0 mX0_empty := by unfold tf_okV tf_okL; decide +kernel

set_option maxHeartbeats 1000000 in
theorem b_empty {G : tf_G} {S : tf_Sg} {o : Nat} (hb : tf_bd G o) : tf_Fn mX0_empty 1 0 0 G S [.ref o] G (tf_bp S (tf_rf G o 0) (tf_rf G o 1) (fun _ => 0)) none := by
  obtain ⟨b1, ⟨r0, t0, n0⟩, ⟨r1, t1, n1⟩, nn⟩ := id hb
  refine tf_Fn_of (own := RX0) false ⟨by decide, rfl, by decide⟩ (Nat.le_of_ble_eq_true rfl) trivial (fun x hx hR => ?_)
  show tf_K x 0 0 G S 0 [some (.ref o), none] []
  refine tf_go hx ftX0_empty 2 [] 2 [some (.ref o), some (.int 0)] [] S rfl ⟨by decide, by decide, rfl⟩ trivial ?_
  have loop : ∀ (m k : Nat), k + m = 30 → tf_K x 0 0 G (tf_fll S (tf_rf G o 0) k (-9)) 2 [some (.ref o), some (.int (nI k))] [] := by
    intro m
    induction m with
    | zero =>
      intro k hk
      refine tf_go hx ftX0_empty 2 [] 5 [some (.ref o), some (.int (nI k))] [.int 30, .int (nI k)] (tf_fll S (tf_rf G o 0) k (-9)) rfl ⟨by decide, by decide, rfl⟩ trivial ?_
      refine tf_go hx ftX0_empty 1 [true] 22 [some (.ref o), some (.int (nI k))] [] (tf_fll S (tf_rf G o 0) k (-9)) rfl ⟨by decide, by decide, rfl⟩ ⟨trivial, (tf_leT (a := 30) (b := k) (rfl : (30 : Int32) = nI 30) rfl (by omega) (by omega) (by omega))⟩ ?_
      rw [show k = 30 by omega]
      refine tf_go hx ftX0_empty 2 [] 24 [some (.ref o), some (.int 0)] [] (tf_fll S (tf_rf G o 0) 30 (-9)) rfl ⟨by decide, by decide, rfl⟩ trivial ?_
      refine tf_fgt [some (.ref o), some (.int 0)] (by simp [tf_lss]) ?_
      have loop2 : ∀ (m k : Nat), k + m = 26 → tf_K x 0 0 G (tf_fll (tf_fll S (tf_rf G o 0) 30 (-9)) (tf_rf G o 1) k (-9)) 24 [some (.ref o), some (.int (nI k))] [] := by
        intro m
        induction m with
        | zero =>
          intro k hk
          refine tf_go hx ftX0_empty 2 [] 27 [some (.ref o), some (.int (nI k))] [.int 26, .int (nI k)] (tf_fll (tf_fll S (tf_rf G o 0) 30 (-9)) (tf_rf G o 1) k (-9)) rfl ⟨by decide, by decide, rfl⟩ trivial ?_
          refine tf_go hx ftX0_empty 1 [true] 44 [some (.ref o), some (.int (nI k))] [] (tf_fll (tf_fll S (tf_rf G o 0) 30 (-9)) (tf_rf G o 1) k (-9)) rfl ⟨by decide, by decide, rfl⟩ ⟨trivial, (tf_leT (a := 26) (b := k) (rfl : (26 : Int32) = nI 26) rfl (by omega) (by omega) (by omega))⟩ ?_
          exact tf_ret ftX0_empty hR rfl ⟨by decide, by decide⟩ rfl (by rw [show k = 26 by omega]; exact tf_bp_0 nn) rfl
        | succ m ih =>
          intro k hk
          refine tf_go hx ftX0_empty 2 [] 27 [some (.ref o), some (.int (nI k))] [.int 26, .int (nI k)] (tf_fll (tf_fll S (tf_rf G o 0) 30 (-9)) (tf_rf G o 1) k (-9)) rfl ⟨by decide, by decide, rfl⟩ trivial ?_
          refine tf_go hx ftX0_empty 1 [false] 30 [some (.ref o), some (.int (nI k))] [] (tf_fll (tf_fll S (tf_rf G o 0) 30 (-9)) (tf_rf G o 1) k (-9)) rfl ⟨by decide, by decide, rfl⟩ ⟨trivial, (tf_leF (a := 26) (b := k) (rfl : (26 : Int32) = nI 26) rfl (by omega) (by omega) (by omega))⟩ ?_
          refine tf_go hx ftX0_empty 4 [] 37 [some (.ref o), some (.int (nI k))] [.int (-9), .int (nI k), .ref (tf_rf G o 1)] (tf_fll (tf_fll S (tf_rf G o 0) 30 (-9)) (tf_rf G o 1) k (-9)) rfl ⟨by decide, by decide, rfl⟩ ⟨trivial, ⟨by first | assumption | rfl | decide | omega, by first | assumption | rfl | decide | omega⟩⟩ ?_
          refine tf_go hx ftX0_empty 1 [] 38 [some (.ref o), some (.int (nI k))] [] (tf_set (tf_fll (tf_fll S (tf_rf G o 0) 30 (-9)) (tf_rf G o 1) k (-9)) (tf_rf G o 1) (Int32.toNatClampNeg (nI k)) (-9)) rfl ⟨by decide, by decide, rfl⟩ ⟨trivial, ⟨by first | assumption | rfl | decide | omega, by first | assumption | exact tf_in (n := k) rfl (by first | assumption | rfl) (by omega) (by decide)⟩⟩ ?_
          rw [show Int32.toNatClampNeg (nI k) = k from tf_cln rfl (by omega)]
          rw [tf_fll_s]
          refine tf_go hx ftX0_empty 2 [] 24 [some (.ref o), some (.int ((nI k) + 1))] [] (tf_fll (tf_fll S (tf_rf G o 0) 30 (-9)) (tf_rf G o 1) (k + 1) (-9)) rfl ⟨by decide, by decide, rfl⟩ trivial ?_
          rw [show ((nI k) + 1) = nI (k + 1) from (tf_add (a := k) (b := 1) rfl (rfl : (1 : Int32) = nI 1))]
          exact ih (k + 1) (by omega)
      have h1 := loop2 26 0 (by omega)
      rw [tf_fll_0] at h1
      exact h1
    | succ m ih =>
      intro k hk
      refine tf_go hx ftX0_empty 2 [] 5 [some (.ref o), some (.int (nI k))] [.int 30, .int (nI k)] (tf_fll S (tf_rf G o 0) k (-9)) rfl ⟨by decide, by decide, rfl⟩ trivial ?_
      refine tf_go hx ftX0_empty 1 [false] 8 [some (.ref o), some (.int (nI k))] [] (tf_fll S (tf_rf G o 0) k (-9)) rfl ⟨by decide, by decide, rfl⟩ ⟨trivial, (tf_leF (a := 30) (b := k) (rfl : (30 : Int32) = nI 30) rfl (by omega) (by omega) (by omega))⟩ ?_
      refine tf_go hx ftX0_empty 4 [] 15 [some (.ref o), some (.int (nI k))] [.int (-9), .int (nI k), .ref (tf_rf G o 0)] (tf_fll S (tf_rf G o 0) k (-9)) rfl ⟨by decide, by decide, rfl⟩ ⟨trivial, ⟨by first | assumption | rfl | decide | omega, by first | assumption | rfl | decide | omega⟩⟩ ?_
      refine tf_go hx ftX0_empty 1 [] 16 [some (.ref o), some (.int (nI k))] [] (tf_set (tf_fll S (tf_rf G o 0) k (-9)) (tf_rf G o 0) (Int32.toNatClampNeg (nI k)) (-9)) rfl ⟨by decide, by decide, rfl⟩ ⟨trivial, ⟨by first | assumption | rfl | decide | omega, by first | assumption | exact tf_in (n := k) rfl (by first | assumption | rfl) (by omega) (by decide)⟩⟩ ?_
      rw [show Int32.toNatClampNeg (nI k) = k from tf_cln rfl (by omega)]
      rw [tf_fll_s]
      refine tf_go hx ftX0_empty 2 [] 2 [some (.ref o), some (.int ((nI k) + 1))] [] (tf_fll S (tf_rf G o 0) (k + 1) (-9)) rfl ⟨by decide, by decide, rfl⟩ trivial ?_
      rw [show ((nI k) + 1) = nI (k + 1) from (tf_add (a := k) (b := 1) rfl (rfl : (1 : Int32) = nI 1))]
      exact ih (k + 1) (by omega)
  have h0 := loop 30 0 (by omega)
  rw [tf_fll_0] at h0
  exact h0

