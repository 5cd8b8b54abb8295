set_option maxHeartbeats 1000000 in
theorem c_init {G : tf_G} {S : tf_Sg} {o cap : Nat} (hc : cap ≤ 100) (ho : 4 ≤ o) (hl : o < G.length) (he : tf_e G o = (3, 0, [0, 0])) : tf_Fn mX5_init 1 1 cap G S [.ref o, .int (nI cap)] (tf_al G o 0 (9, cap, [])) (tf_set (tf_new S G.length) o 1 0) none := by
  refine tf_Fn_of (own := RX5) true ⟨by decide, rfl, by decide⟩ (Nat.le_of_ble_eq_true rfl) trivial (fun x hx hR => ?_)
  show tf_K x 0 0 G S 0 [some (.ref o), some (.int (nI cap))] []
  have q1 : tf_tg G o = 3 := by unfold tf_tg; rw [he]
  refine tf_go hx ftX5_init 6 [] 10 [some (.ref o), some (.int (nI cap))] [.int (if (nI cap) < 0 then 0 else (nI cap)), .ref o] S rfl ⟨by decide, by omega, rfl⟩ trivial ?_
  have c0 : ¬ nI cap < 0 := tf_ltF (a := cap) (b := 0) rfl rfl (by omega) (by omega) (by omega)
  rw [if_neg c0]
  refine tf_knewi hx ftX5_init cap rfl ⟨c0, tf_cl_nI (by omega), by omega⟩ ⟨by decide, by omega⟩ (tf_vs_r (by omega) (tf_vs_i tf_vs_0)) (tf_vs_r (by omega) tf_vs_0) ?_
  refine tf_kputr hx ftX5_init rfl rfl ⟨by decide, by decide, rfl⟩ (by unfold tf_tg; rw [tf_e_app (by omega), he]) (by rw [tf_e_app (by omega), he]; show 0 < 2; decide) ⟨by omega, by rw [List.length_append]; exact Nat.lt_succ_self _⟩ ?_
  show tf_K x (0 + 1) (0 + cap) (tf_al G o 0 (9, cap, [])) (tf_new S G.length) 15 [some (.ref o), some (.int (nI cap))] []
  have q2 : tf_tg (tf_al G o 0 (9, cap, [])) o = 3 := by unfold tf_tg; rw [tf_al_o (by omega), he]
  refine tf_go hx ftX5_init 3 [] 20 [some (.ref o), some (.int (nI cap))] [] (tf_set (tf_new S G.length) o 1 0) rfl ⟨by decide, by omega, rfl⟩ ⟨trivial, (by first | assumption | rfl | decide | omega)⟩ ?_
  exact tf_ret ftX5_init hR rfl ⟨by decide, by omega⟩ rfl rfl rfl

