theorem b_lay {G : tf_G} {S : tf_Sg} {o k v : Nat} (hb : tf_bd G o) (hk : k < 30) (hv : v ≤ 26) : tf_Fn mX0_lay 2 0 0 G S [.ref o, .int (nI k), .int (tf_vo v)] G (tf_lay S (tf_rf G o 0) (tf_rf G o 1) k v) none := by
  unfold tf_lay
  by_cases h : v = 0
  · rw [if_pos h, h]
    exact b_lay0 hb hk
  · rw [if_neg h, show tf_vo v = nI (v - 1) from if_neg h]
    exact b_lay1 hb hk (by omega)

set_option maxHeartbeats 1000000 in
theorem b_swap {G : tf_G} {S : tf_Sg} {o y z : Nat} {p : Nat → Nat} (hb : tf_bd G o) (hy : y < 30) (hz : z < 30) (hv : ∀ k, k < 30 → p k ≤ 26) (hd : ∀ i j, i < j → j < 30 → p j ≠ 0 → p i ≠ p j) : tf_Fn mX0_swap 3 0 0 G (tf_bp S (tf_rf G o 0) (tf_rf G o 1) p) [.ref o, .int (nI y), .int (nI z)] G (tf_bp S (tf_rf G o 0) (tf_rf G o 1) (tf_pe p y z)) none := by
  obtain ⟨b1, ⟨r0, t0, n0⟩, ⟨r1, t1, n1⟩, nn⟩ := id hb
  refine tf_Fn_of (own := RX0) false ⟨by decide, rfl, by decide⟩ (Nat.le_of_ble_eq_true rfl) trivial (fun x hx hR => ?_)
  show tf_K x 0 0 G (tf_bp S (tf_rf G o 0) (tf_rf G o 1) p) 0 [some (.ref o), some (.int (nI y)), some (.int (nI z)), none] []
  have cy : ¬ nI y < 0 ∧ ¬ 30 ≤ nI y := ⟨tf_ltF (a := y) (b := 0) rfl rfl (by omega) (by omega) (by omega), tf_leF (a := 30) (b := y) rfl rfl (by omega) (by omega) (by omega)⟩
  have ry : (tf_bp S (tf_rf G o 0) (tf_rf G o 1) p) (tf_rf G o 0) (Int32.toNatClampNeg (nI y)) = tf_vo (p y) := by rw [tf_cl_nI (by omega)]; exact if_pos ⟨rfl, by omega⟩
  have cz : ¬ nI z < 0 ∧ ¬ 30 ≤ nI z := ⟨tf_ltF (a := z) (b := 0) rfl rfl (by omega) (by omega) (by omega), tf_leF (a := 30) (b := z) rfl rfl (by omega) (by omega) (by omega)⟩
  have rz : (tf_bp S (tf_rf G o 0) (tf_rf G o 1) p) (tf_rf G o 0) (Int32.toNatClampNeg (nI z)) = tf_vo (p z) := by rw [tf_cl_nI (by omega)]; exact if_pos ⟨rfl, by omega⟩
  refine tf_go hx ftX0_swap 1 [] 1 [some (.ref o), some (.int (nI y)), some (.int (nI z)), none] [.int (nI y)] (tf_bp S (tf_rf G o 0) (tf_rf G o 1) p) rfl ⟨by decide, by decide, rfl⟩ trivial ?_
  refine tf_cN hx ftX0_swap (nx := 4) (As := [.int (nI y)]) (rest := []) (st2 := [.int (if ¬ (nI y) < 0 ∧ ¬ 30 ≤ (nI y) then 0 else 1)]) (c_noKey (nI y)) rfl lX0_21 rfl ⟨rfl, by decide, by decide, by decide, rfl, rfl⟩ ?_
  rw [if_pos cy]
  refine tf_go hx ftX0_swap 1 [false] 7 [some (.ref o), some (.int (nI y)), some (.int (nI z)), none] [] (tf_bp S (tf_rf G o 0) (tf_rf G o 1) p) rfl ⟨by decide, by decide, rfl⟩ ⟨trivial, (by decide)⟩ ?_
  refine tf_go hx ftX0_swap 1 [] 8 [some (.ref o), some (.int (nI y)), some (.int (nI z)), none] [.int (nI z)] (tf_bp S (tf_rf G o 0) (tf_rf G o 1) p) rfl ⟨by decide, by decide, rfl⟩ trivial ?_
  refine tf_cN hx ftX0_swap (nx := 11) (As := [.int (nI z)]) (rest := []) (st2 := [.int (if ¬ (nI z) < 0 ∧ ¬ 30 ≤ (nI z) then 0 else 1)]) (c_noKey (nI z)) rfl lX0_21 rfl ⟨rfl, by decide, by decide, by decide, rfl, rfl⟩ ?_
  rw [if_pos cz]
  refine tf_go hx ftX0_swap 1 [false] 14 [some (.ref o), some (.int (nI y)), some (.int (nI z)), none] [] (tf_bp S (tf_rf G o 0) (tf_rf G o 1) p) rfl ⟨by decide, by decide, rfl⟩ ⟨trivial, (by decide)⟩ ?_
  refine tf_go hx ftX0_swap 4 [] 20 [some (.ref o), some (.int (nI y)), some (.int (nI z)), none] [.int ((tf_bp S (tf_rf G o 0) (tf_rf G o 1) p) (tf_rf G o 0) (Int32.toNatClampNeg (nI y)))] (tf_bp S (tf_rf G o 0) (tf_rf G o 1) p) rfl ⟨by decide, by decide, rfl⟩ ⟨⟨trivial, ⟨by first | assumption | rfl | decide | omega, by first | assumption | rfl | decide | omega⟩⟩, ⟨Or.inl (by first | assumption | rfl | decide | omega), by first | assumption | exact tf_in (n := y) rfl (by first | assumption | rfl) (by omega) (by decide)⟩⟩ ?_
  rw [show ((tf_bp S (tf_rf G o 0) (tf_rf G o 1) p) (tf_rf G o 0) (Int32.toNatClampNeg (nI y))) = tf_vo (p y) from ry]
  refine tf_go hx ftX0_swap 7 [] 29 [some (.ref o), some (.int (nI y)), some (.int (nI z)), some (.int (tf_vo (p y)))] [.int ((tf_bp S (tf_rf G o 0) (tf_rf G o 1) p) (tf_rf G o 0) (Int32.toNatClampNeg (nI z))), .int (nI y), .ref o] (tf_bp S (tf_rf G o 0) (tf_rf G o 1) p) rfl ⟨by decide, by decide, rfl⟩ ⟨⟨trivial, ⟨by first | assumption | rfl | decide | omega, by first | assumption | rfl | decide | omega⟩⟩, ⟨Or.inl (by first | assumption | rfl | decide | omega), by first | assumption | exact tf_in (n := z) rfl (by first | assumption | rfl) (by omega) (by decide)⟩⟩ ?_
  rw [show ((tf_bp S (tf_rf G o 0) (tf_rf G o 1) p) (tf_rf G o 0) (Int32.toNatClampNeg (nI z))) = tf_vo (p z) from rz]
  refine tf_cV hx ftX0_swap (nx := 32) (As := [.int (nI y), .int (tf_vo (p z))]) (rest := []) (st2 := []) (b_lay hb hy (hv z hz)) rfl lX0_36 (by first | assumption | rfl | decide) rfl ⟨rfl, by decide, by decide, by decide, rfl, rfl⟩ ?_
  refine tf_go hx ftX0_swap 3 [] 35 [some (.ref o), some (.int (nI y)), some (.int (nI z)), some (.int (tf_vo (p y)))] [.int (tf_vo (p y)), .int (nI z), .ref o] (tf_lay (tf_bp S (tf_rf G o 0) (tf_rf G o 1) p) (tf_rf G o 0) (tf_rf G o 1) y (p z)) rfl ⟨by decide, by decide, rfl⟩ trivial ?_
  refine tf_cV hx ftX0_swap (nx := 38) (As := [.int (nI z), .int (tf_vo (p y))]) (rest := []) (st2 := []) (b_lay hb hz (hv y hy)) rfl lX0_36 (by first | assumption | rfl | decide) rfl ⟨rfl, by decide, by decide, by decide, rfl, rfl⟩ ?_
  rw [tf_swp nn hy hz hv hd]
  exact tf_ret ftX0_swap hR rfl ⟨by decide, by decide⟩ rfl rfl rfl

