set_option maxHeartbeats 1000000 in
theorem b_copyFrom {G : tf_G} {S : tf_Sg} {o q : Nat} {p : Nat → Nat} (hb : tf_bd G o) (hb2 : tf_bd G q) (na : tf_rf G q 0 ≠ tf_rf G o 0) (nc : tf_rf G q 0 ≠ tf_rf G o 1) (hs : ∀ k, k < 30 → S (tf_rf G q 0) k = tf_vo (p k)) (hv : ∀ k, k < 30 → p k ≤ 26) (hd : ∀ i j, i < j → j < 30 → p j ≠ 0 → p i ≠ p j) : tf_Fn mX0_copyFrom 3 0 0 G S [.ref o, .ref q] G (tf_bp S (tf_rf G o 0) (tf_rf G o 1) p) none := by
  obtain ⟨b1, ⟨r0, t0, n0⟩, ⟨r1, t1, n1⟩, nn⟩ := id hb
  have b2 := hb2.1
  refine tf_Fn_of (own := RX0) false ⟨by decide, rfl, by decide⟩ (Nat.le_of_ble_eq_true rfl) trivial (fun x hx hR => ?_)
  show tf_K x 0 0 G S 0 [some (.ref o), some (.ref q), none] []
  refine tf_go hx ftX0_copyFrom 1 [] 1 [some (.ref o), some (.ref q), none] [.ref o] S rfl ⟨by decide, by decide, rfl⟩ trivial ?_
  refine tf_cV hx ftX0_copyFrom (nx := 4) (As := []) (rest := []) (st2 := []) (b_empty hb) rfl lX0_18 (by first | assumption | rfl | decide) rfl ⟨rfl, by decide, by decide, by decide, rfl, rfl⟩ ?_
  refine tf_go hx ftX0_copyFrom 2 [] 6 [some (.ref o), some (.ref q), some (.int 0)] [] (tf_bp S (tf_rf G o 0) (tf_rf G o 1) (fun _ => 0)) rfl ⟨by decide, by decide, rfl⟩ trivial ?_
  rw [← tf_ct_0 (p := p)]
  have loop : ∀ (m k : Nat), k + m = 30 → tf_K x 0 0 G (tf_bp S (tf_rf G o 0) (tf_rf G o 1) (tf_ct p k)) 6 [some (.ref o), some (.ref q), some (.int (nI k))] [] := by
    intro m
    induction m with
    | zero =>
      intro k hk
      refine tf_go hx ftX0_copyFrom 2 [] 9 [some (.ref o), some (.ref q), some (.int (nI k))] [.int 30, .int (nI k)] (tf_bp S (tf_rf G o 0) (tf_rf G o 1) (tf_ct p k)) rfl ⟨by decide, by decide, rfl⟩ trivial ?_
      refine tf_go hx ftX0_copyFrom 1 [true] 28 [some (.ref o), some (.ref q), some (.int (nI k))] [] (tf_bp S (tf_rf G o 0) (tf_rf G o 1) (tf_ct p k)) rfl ⟨by decide, by decide, rfl⟩ ⟨trivial, (tf_leT (a := 30) (b := k) (rfl : (30 : Int32) = nI 30) rfl (by omega) (by omega) (by omega))⟩ ?_
      exact tf_ret ftX0_copyFrom hR rfl ⟨by decide, by decide⟩ rfl (by rw [show k = 30 by omega]; exact tf_bp_ct) rfl
    | succ m ih =>
      intro k hk
      refine tf_go hx ftX0_copyFrom 2 [] 9 [some (.ref o), some (.ref q), some (.int (nI k))] [.int 30, .int (nI k)] (tf_bp S (tf_rf G o 0) (tf_rf G o 1) (tf_ct p k)) rfl ⟨by decide, by decide, rfl⟩ trivial ?_
      refine tf_go hx ftX0_copyFrom 1 [false] 12 [some (.ref o), some (.ref q), some (.int (nI k))] [] (tf_bp S (tf_rf G o 0) (tf_rf G o 1) (tf_ct p k)) rfl ⟨by decide, by decide, rfl⟩ ⟨trivial, (tf_leF (a := 30) (b := k) (rfl : (30 : Int32) = nI 30) rfl (by omega) (by omega) (by omega))⟩ ?_
      refine tf_go hx ftX0_copyFrom 4 [] 16 [some (.ref o), some (.ref q), some (.int (nI k))] [.int (nI k), .ref q, .int (nI k), .ref o] (tf_bp S (tf_rf G o 0) (tf_rf G o 1) (tf_ct p k)) rfl ⟨by decide, by decide, rfl⟩ trivial ?_
      have c1 : ¬ nI k < 0 ∧ ¬ 30 ≤ nI k := ⟨tf_ltF (a := k) (b := 0) rfl rfl (by omega) (by omega) (by omega), tf_leF (a := 30) (b := k) rfl rfl (by omega) (by omega) (by omega)⟩
      have lv : (tf_bp S (tf_rf G o 0) (tf_rf G o 1) (tf_ct p k)) (tf_rf G q 0) k = tf_vo (p k) := by show (if tf_rf G q 0 = (tf_rf G o 0) ∧ k < 30 then _ else if tf_rf G q 0 = (tf_rf G o 1) ∧ k < 26 then _ else S (tf_rf G q 0) k) = _; rw [if_neg (fun h => na h.1), if_neg (fun h => nc h.1)]; exact hs k (by omega)
      refine tf_cV hx ftX0_copyFrom (nx := 19) (As := [.int (nI k)]) (rest := [.int (nI k), .ref o]) (st2 := [.int (tf_vo (p k)), .int (nI k), .ref o]) ((by have h := b_letterAt (S := (tf_bp S (tf_rf G o 0) (tf_rf G o 1) (tf_ct p k))) (nI k) hb2; rw [if_pos c1, tf_cl_nI (show k < 2147483648 by omega), lv] at h; exact h)) rfl lX0_40 (by first | assumption | rfl | decide) rfl ⟨rfl, by decide, by decide, by decide, rfl, rfl⟩ ?_
      by_cases e1 : p k = 0
      · rw [show tf_vo (p k) = -9 by rw [e1]; rfl]
        refine tf_cV hx ftX0_copyFrom (nx := 22) (As := [.int (nI k), .int (-9)]) (rest := []) (st2 := []) ((by have h := b_lay0 (S := (tf_bp S (tf_rf G o 0) (tf_rf G o 1) (tf_ct p k))) hb (show k < 30 by omega); rw [tf_bp_c1 (by omega) e1] at h; exact h)) rfl lX0_36 (by first | assumption | rfl | decide) rfl ⟨rfl, by decide, by decide, by decide, rfl, rfl⟩ ?_
        refine tf_go hx ftX0_copyFrom 2 [] 6 [some (.ref o), some (.ref q), some (.int ((nI k) + 1))] [] (tf_bp S (tf_rf G o 0) (tf_rf G o 1) (tf_ct p (k + 1))) rfl ⟨by decide, by decide, rfl⟩ trivial ?_
        rw [show ((nI k) + 1) = nI (k + 1) from (tf_add (a := k) (b := 1) rfl (rfl : (1 : Int32) = nI 1))]
        exact ih (k + 1) (by omega)
      · obtain ⟨l, hl⟩ : ∃ l, p k = l + 1 := ⟨p k - 1, by omega⟩
        have hv1 := hv k (by omega)
        rw [show tf_vo (p k) = nI l by rw [hl]; unfold tf_vo; rw [if_neg (by omega)]; rfl]
        refine tf_cV hx ftX0_copyFrom (nx := 22) (As := [.int (nI k), .int (nI l)]) (rest := []) (st2 := []) ((by have h := b_lay1 (S := (tf_bp S (tf_rf G o 0) (tf_rf G o 1) (tf_ct p k))) (l := l) hb (show k < 30 by omega) (by omega); rw [tf_bp_c2 nn (by omega) (by omega) hl (fun j hj => by rw [← hl]; exact hd j k hj (by omega) (by omega))] at h; exact h)) rfl lX0_36 (by first | assumption | rfl | decide) rfl ⟨rfl, by decide, by decide, by decide, rfl, rfl⟩ ?_
        refine tf_go hx ftX0_copyFrom 2 [] 6 [some (.ref o), some (.ref q), some (.int ((nI k) + 1))] [] (tf_bp S (tf_rf G o 0) (tf_rf G o 1) (tf_ct p (k + 1))) rfl ⟨by decide, by decide, rfl⟩ trivial ?_
        rw [show ((nI k) + 1) = nI (k + 1) from (tf_add (a := k) (b := 1) rfl (rfl : (1 : Int32) = nI 1))]
        exact ih (k + 1) (by omega)
  exact loop 30 0 rfl

