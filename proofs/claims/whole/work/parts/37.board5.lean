set_option maxHeartbeats 1000000 in
theorem b_init {G : tf_G} {S : tf_Sg} {o : Nat} (ho : 4 ≤ o) (hl : o < G.length) (he : tf_e G o = (0, 0, [0, 0])) : tf_Fn mX0_init 2 2 56 G S [.ref o] (tf_al (tf_al G o 0 (9, 30, [])) o 1 (9, 26, [])) (tf_bp (tf_new (tf_new S G.length) (G.length + 1)) G.length (G.length + 1) (fun _ => 0)) none := by
  refine tf_Fn_of (own := RX0) true ⟨by decide, rfl, by decide⟩ (Nat.le_of_ble_eq_true rfl) trivial (fun x hx hR => ?_)
  show tf_K x 0 0 G S 0 [some (.ref o)] []
  have l1 : ((tf_al G o 0 (9, 30, []))).length = G.length + 1 := tf_al_len
  have l2 : ((tf_al (tf_al G o 0 (9, 30, [])) o 1 (9, 26, []))).length = G.length + 2 := by rw [tf_al_len, l1]
  have e0 := he
  have e1 : tf_e (tf_al G o 0 (9, 30, [])) o = (0, 0, [G.length, 0]) := by rw [tf_al_o (by omega), e0]; rfl
  have e2 : tf_e (tf_al (tf_al G o 0 (9, 30, [])) o 1 (9, 26, [])) o = (0, 0, [G.length, G.length + 1]) := by rw [tf_al_o (by omega), e1, l1]; rfl
  refine tf_go hx ftX0_init 4 [] 7 [some (.ref o)] [.int 30, .ref o] S rfl ⟨by decide, by decide, rfl⟩ trivial ?_
  refine tf_knewi hx ftX0_init 30 rfl ⟨by decide, rfl, by decide⟩ ⟨by decide, by decide⟩ (tf_vs_r (by omega) tf_vs_0) (tf_vs_r (by omega) tf_vs_0) ?_
  refine tf_kputr hx ftX0_init rfl rfl ⟨by decide, by decide, rfl⟩ (by unfold tf_tg; rw [tf_e_app (by omega), e0]) (by rw [tf_e_app (by omega), e0]; show 0 < 2; decide) ⟨by omega, by rw [List.length_append]; exact Nat.lt_succ_self _⟩ ?_
  rw [show tf_sr (G ++ [(9, 30, [])]) o 0 (G).length = (tf_al G o 0 (9, 30, [])) from rfl]
  show tf_K x (0 + 1) (0 + 30) (tf_al G o 0 (9, 30, [])) (tf_new S G.length) 12 [some (.ref o)] []
  refine tf_go hx ftX0_init 2 [] 15 [some (.ref o)] [.int 26, .ref o] (tf_new S G.length) rfl ⟨by decide, by decide, rfl⟩ trivial ?_
  refine tf_knewi hx ftX0_init 26 rfl ⟨by decide, rfl, by decide⟩ ⟨by decide, by decide⟩ (tf_vs_r (by omega) tf_vs_0) (tf_vs_r (by omega) tf_vs_0) ?_
  refine tf_kputr hx ftX0_init rfl rfl ⟨by decide, by decide, rfl⟩ (by unfold tf_tg; rw [tf_e_app (by omega), e1]) (by rw [tf_e_app (by omega), e1]; show 1 < 2; decide) ⟨by omega, by rw [List.length_append]; exact Nat.lt_succ_self _⟩ ?_
  rw [show tf_sr ((tf_al G o 0 (9, 30, [])) ++ [(9, 26, [])]) o 1 ((tf_al G o 0 (9, 30, []))).length = (tf_al (tf_al G o 0 (9, 30, [])) o 1 (9, 26, [])) from rfl]
  rw [l1]
  show tf_K x (0 + 1 + 1) (0 + 30 + 26) (tf_al (tf_al G o 0 (9, 30, [])) o 1 (9, 26, [])) (tf_new (tf_new S G.length) (G.length + 1)) 20 [some (.ref o)] []
  refine tf_go hx ftX0_init 1 [] 21 [some (.ref o)] [.ref o] (tf_new (tf_new S G.length) (G.length + 1)) rfl ⟨by decide, by decide, rfl⟩ trivial ?_
  have q0 : tf_rf (tf_al (tf_al G o 0 (9, 30, [])) o 1 (9, 26, [])) o 0 = G.length := by unfold tf_rf; rw [e2]; rfl
  have q1 : tf_rf (tf_al (tf_al G o 0 (9, 30, [])) o 1 (9, 26, [])) o 1 = G.length + 1 := by unfold tf_rf; rw [e2]; rfl
  have f0 : tf_e (tf_al (tf_al G o 0 (9, 30, [])) o 1 (9, 26, [])) G.length = (9, 30, []) := by rw [tf_al_i (by omega) (by omega) (by omega), tf_al_n (by omega) (by omega)]
  have f1 : tf_e (tf_al (tf_al G o 0 (9, 30, [])) o 1 (9, 26, [])) (G.length + 1) = (9, 26, []) := by rw [tf_al_n (by omega) (by omega)]
  have bt : tf_tg (tf_al (tf_al G o 0 (9, 30, [])) o 1 (9, 26, [])) o = 0 := by unfold tf_tg; rw [e2]
  have hb : tf_bd (tf_al (tf_al G o 0 (9, 30, [])) o 1 (9, 26, [])) o := ⟨bt, ⟨by rw [q0]; omega, by rw [q0]; unfold tf_tg; rw [f0], by rw [q0]; unfold tf_ln; rw [f0]⟩, ⟨by rw [q1]; omega, by rw [q1]; unfold tf_tg; rw [f1], by rw [q1]; unfold tf_ln; rw [f1]⟩, by rw [q0, q1]; omega⟩
  refine tf_cV hx ftX0_init (nx := 24) (As := []) (rest := []) (st2 := []) ((by have h := b_empty (S := (tf_new (tf_new S G.length) (G.length + 1))) hb; rw [q0, q1] at h; exact h)) rfl lX0_18 (by first | assumption | rfl | decide) rfl ⟨rfl, by decide, by decide, by decide, rfl, rfl⟩ ?_
  exact tf_ret ftX0_init hR rfl ⟨by decide, by decide⟩ rfl rfl rfl

