def tX11_init : tf_T := [(0, .aload_n 0, 1, 0, 0),
  (1, .invokespecial 1, 4, 0, 0),
  (4, .aload_n 0, 5, 0, 0),
  (5, .bipush 7, 7, 0, 7),
  (7, .newarray .int, 9, 0, 0),
  (9, .putfield 7, 12, 0, 0),
  (12, .aload_n 0, 13, 0, 0),
  (13, .sipush 368, 16, 0, 368),
  (16, .newarray .int, 18, 0, 0),
  (18, .putfield 13, 21, 0, 0),
  (21, .aload_n 0, 22, 0, 0),
  (22, .sipush 368, 25, 0, 368),
  (25, .newarray .int, 27, 0, 0),
  (27, .putfield 16, 30, 0, 0),
  (30, .aload_n 0, 31, 0, 0),
  (31, .bipush 48, 33, 0, 48),
  (33, .newarray .int, 35, 0, 0),
  (35, .putfield 19, 38, 0, 0),
  (38, .iconst 0, 39, 0, 0),
  (39, .istore_n 1, 40, 0, 0),
  (40, .iload_n 1, 41, 0, 0),
  (41, .iconst 4, 42, 0, 4),
  (42, .if_icmp .ge 104, 45, 146, 0),
  (45, .aload_n 0, 46, 0, 0),
  (46, .getfield 13, 49, 0, 0),
  (49, .bipush 120, 51, 0, 120),
  (51, .bipush 6, 53, 0, 6),
  (53, .iload_n 1, 54, 0, 0),
  (54, .imul, 55, 0, 0),
  (55, .iadd, 56, 0, 0),
  (56, .bipush 100, 58, 0, 100),
  (58, .iastore, 59, 0, 0),
  (59, .aload_n 0, 60, 0, 0),
  (60, .getfield 13, 63, 0, 0),
  (63, .bipush 120, 65, 0, 120),
  (65, .bipush 6, 67, 0, 6),
  (67, .iload_n 1, 68, 0, 0),
  (68, .imul, 69, 0, 0),
  (69, .iadd, 70, 0, 0),
  (70, .iconst 1, 71, 0, 1),
  (71, .iadd, 72, 0, 0),
  (72, .bipush 120, 74, 0, 120),
  (74, .iastore, 75, 0, 0),
  (75, .aload_n 0, 76, 0, 0),
  (76, .getfield 13, 79, 0, 0),
  (79, .bipush 120, 81, 0, 120),
  (81, .bipush 6, 83, 0, 6),
  (83, .iload_n 1, 84, 0, 0),
  (84, .imul, 85, 0, 0),
  (85, .iadd, 86, 0, 0),
  (86, .iconst 2, 87, 0, 2),
  (87, .iadd, 88, 0, 0),
  (88, .bipush 90, 90, 0, 90),
  (90, .iastore, 91, 0, 0),
  (91, .aload_n 0, 92, 0, 0),
  (92, .getfield 13, 95, 0, 0),
  (95, .bipush 120, 97, 0, 120),
  (97, .bipush 6, 99, 0, 6),
  (99, .iload_n 1, 100, 0, 0),
  (100, .imul, 101, 0, 0),
  (101, .iadd, 102, 0, 0),
  (102, .iconst 3, 103, 0, 3),
  (103, .iadd, 104, 0, 0),
  (104, .sipush 150, 107, 0, 150),
  (107, .iastore, 108, 0, 0),
  (108, .aload_n 0, 109, 0, 0),
  (109, .getfield 13, 112, 0, 0),
  (112, .bipush 120, 114, 0, 120),
  (114, .bipush 6, 116, 0, 6),
  (116, .iload_n 1, 117, 0, 0),
  (117, .imul, 118, 0, 0),
  (118, .iadd, 119, 0, 0),
  (119, .iconst 4, 120, 0, 4),
  (120, .iadd, 121, 0, 0),
  (121, .bipush 20, 123, 0, 20),
  (123, .iastore, 124, 0, 0),
  (124, .aload_n 0, 125, 0, 0),
  (125, .getfield 13, 128, 0, 0),
  (128, .bipush 120, 130, 0, 120),
  (130, .bipush 6, 132, 0, 6),
  (132, .iload_n 1, 133, 0, 0),
  (133, .imul, 134, 0, 0),
  (134, .iadd, 135, 0, 0),
  (135, .iconst 5, 136, 0, 5),
  (136, .iadd, 137, 0, 0),
  (137, .bipush 15, 139, 0, 15),
  (139, .iastore, 140, 0, 0),
  (140, .iinc 1 1, 143, 0, 1),
  (143, .goto (-103), 146, 40, 0),
  (146, .return_, 147, 0, 0)]
set_option maxRecDepth 100000 in
theorem okX11_init : tf_okT cX11_init tX11_init := by unfold tf_okT; decide +kernel
theorem ftX11_init : 1 ≤ 1 ∧ tf_okF RX11 fX11 ∧ tf_okT cX11_init tX11_init := ⟨by decide, okfX11, okX11_init⟩
def mX11_init : tf_M := (yX11_init, cX11_init, 2, none)

set_option maxHeartbeats 1000000 in
theorem m_init {G : tf_G} {S : tf_Sg} {o : Nat} (ho : 4 ≤ o) (hl : o < G.length) (he : tf_e G o = (8, 0, [0, 0, 0, 0, 0, 0])) : tf_Fn mX11_init 1 4 791 G S [.ref o] (tf_al (tf_al (tf_al (tf_al G o 0 (9, 7, [])) o 1 (9, 368, [])) o 2 (9, 368, [])) o 4 (9, 48, [])) (tf_rw (tf_new (tf_new (tf_new (tf_new S G.length) (G.length + 1)) (G.length + 2)) (G.length + 3)) (G.length + 1) (tf_i0 4)) none := by
  refine tf_Fn_of (own := RX11) true ⟨by decide, rfl, by decide⟩ (Nat.le_of_ble_eq_true rfl) trivial (fun x hx hR => ?_)
  show tf_K x 0 0 G S 0 [some (.ref o), none] []
  have l1 : ((tf_al G o 0 (9, 7, []))).length = G.length + 1 := tf_al_len
  have l2 : ((tf_al (tf_al G o 0 (9, 7, [])) o 1 (9, 368, []))).length = G.length + 2 := by rw [tf_al_len, l1]
  have l3 : ((tf_al (tf_al (tf_al G o 0 (9, 7, [])) o 1 (9, 368, [])) o 2 (9, 368, []))).length = G.length + 3 := by rw [tf_al_len, l2]
  have l4 : ((tf_al (tf_al (tf_al (tf_al G o 0 (9, 7, [])) o 1 (9, 368, [])) o 2 (9, 368, [])) o 4 (9, 48, []))).length = G.length + 4 := by rw [tf_al_len, l3]
  have e0 := he
  have e1 : tf_e (tf_al G o 0 (9, 7, [])) o = (8, 0, [(G.length), 0, 0, 0, 0, 0]) := by rw [tf_al_o (by omega), e0]; rfl
  have e2 : tf_e (tf_al (tf_al G o 0 (9, 7, [])) o 1 (9, 368, [])) o = (8, 0, [(G.length), (G.length + 1), 0, 0, 0, 0]) := by rw [tf_al_o (by omega), e1, l1]; rfl
  have e3 : tf_e (tf_al (tf_al (tf_al G o 0 (9, 7, [])) o 1 (9, 368, [])) o 2 (9, 368, [])) o = (8, 0, [(G.length), (G.length + 1), (G.length + 2), 0, 0, 0]) := by rw [tf_al_o (by omega), e2, l2]; rfl
  have e4 : tf_e (tf_al (tf_al (tf_al (tf_al G o 0 (9, 7, [])) o 1 (9, 368, [])) o 2 (9, 368, [])) o 4 (9, 48, [])) o = (8, 0, [(G.length), (G.length + 1), (G.length + 2), 0, (G.length + 3), 0]) := by rw [tf_al_o (by omega), e3, l3]; rfl
  refine tf_go hx ftX11_init 4 [] 7 [some (.ref o), none] [.int 7, .ref o] S rfl ⟨by decide, by decide, rfl⟩ trivial ?_
  refine tf_knewi hx ftX11_init 7 rfl ⟨by decide, rfl, by decide⟩ ⟨by decide, by decide⟩ (tf_vs_r (by omega) tf_vs_0) (tf_vs_r (by omega) tf_vs_0) ?_
  refine tf_kputr hx ftX11_init rfl rfl ⟨by decide, by decide, rfl⟩ (by unfold tf_tg; rw [tf_e_app (by omega), e0]) (by rw [tf_e_app (by omega), e0]; show 0 < 6; decide) ⟨by omega, by rw [List.length_append]; exact Nat.lt_succ_self _⟩ ?_
  rw [show tf_sr (G ++ [(9, 7, [])]) o 0 (G).length = (tf_al G o 0 (9, 7, [])) from rfl]
  show tf_K x (0 + 1) (0 + 7) (tf_al G o 0 (9, 7, [])) (tf_new S G.length) 12 [some (.ref o), none] []
  refine tf_go hx ftX11_init 2 [] 16 [some (.ref o), none] [.int 368, .ref o] (tf_new S G.length) rfl ⟨by decide, by decide, rfl⟩ trivial ?_
  refine tf_knewi hx ftX11_init 368 rfl ⟨by decide, rfl, by decide⟩ ⟨by decide, by decide⟩ (tf_vs_r (by omega) tf_vs_0) (tf_vs_r (by omega) tf_vs_0) ?_
  refine tf_kputr hx ftX11_init rfl rfl ⟨by decide, by decide, rfl⟩ (by unfold tf_tg; rw [tf_e_app (by omega), e1]) (by rw [tf_e_app (by omega), e1]; show 1 < 6; decide) ⟨by omega, by rw [List.length_append]; exact Nat.lt_succ_self _⟩ ?_
  rw [show tf_sr ((tf_al G o 0 (9, 7, [])) ++ [(9, 368, [])]) o 1 ((tf_al G o 0 (9, 7, []))).length = (tf_al (tf_al G o 0 (9, 7, [])) o 1 (9, 368, [])) from rfl]
  rw [l1]
  show tf_K x (0 + 1 + 1) (0 + 7 + 368) (tf_al (tf_al G o 0 (9, 7, [])) o 1 (9, 368, [])) (tf_new (tf_new S G.length) (G.length + 1)) 21 [some (.ref o), none] []
  refine tf_go hx ftX11_init 2 [] 25 [some (.ref o), none] [.int 368, .ref o] (tf_new (tf_new S G.length) (G.length + 1)) rfl ⟨by decide, by decide, rfl⟩ trivial ?_
  refine tf_knewi hx ftX11_init 368 rfl ⟨by decide, rfl, by decide⟩ ⟨by decide, by decide⟩ (tf_vs_r (by omega) tf_vs_0) (tf_vs_r (by omega) tf_vs_0) ?_
  refine tf_kputr hx ftX11_init rfl rfl ⟨by decide, by decide, rfl⟩ (by unfold tf_tg; rw [tf_e_app (by omega), e2]) (by rw [tf_e_app (by omega), e2]; show 2 < 6; decide) ⟨by omega, by rw [List.length_append]; exact Nat.lt_succ_self _⟩ ?_
  rw [show tf_sr ((tf_al (tf_al G o 0 (9, 7, [])) o 1 (9, 368, [])) ++ [(9, 368, [])]) o 2 ((tf_al (tf_al G o 0 (9, 7, [])) o 1 (9, 368, []))).length = (tf_al (tf_al (tf_al G o 0 (9, 7, [])) o 1 (9, 368, [])) o 2 (9, 368, [])) from rfl]
  rw [l2]
  show tf_K x (0 + 1 + 1 + 1) (0 + 7 + 368 + 368) (tf_al (tf_al (tf_al G o 0 (9, 7, [])) o 1 (9, 368, [])) o 2 (9, 368, [])) (tf_new (tf_new (tf_new S G.length) (G.length + 1)) (G.length + 2)) 30 [some (.ref o), none] []
  refine tf_go hx ftX11_init 2 [] 33 [some (.ref o), none] [.int 48, .ref o] (tf_new (tf_new (tf_new S G.length) (G.length + 1)) (G.length + 2)) rfl ⟨by decide, by decide, rfl⟩ trivial ?_
  refine tf_knewi hx ftX11_init 48 rfl ⟨by decide, rfl, by decide⟩ ⟨by decide, by decide⟩ (tf_vs_r (by omega) tf_vs_0) (tf_vs_r (by omega) tf_vs_0) ?_
  refine tf_kputr hx ftX11_init rfl rfl ⟨by decide, by decide, rfl⟩ (by unfold tf_tg; rw [tf_e_app (by omega), e3]) (by rw [tf_e_app (by omega), e3]; show 4 < 6; decide) ⟨by omega, by rw [List.length_append]; exact Nat.lt_succ_self _⟩ ?_
  rw [show tf_sr ((tf_al (tf_al (tf_al G o 0 (9, 7, [])) o 1 (9, 368, [])) o 2 (9, 368, [])) ++ [(9, 48, [])]) o 4 ((tf_al (tf_al (tf_al G o 0 (9, 7, [])) o 1 (9, 368, [])) o 2 (9, 368, []))).length = (tf_al (tf_al (tf_al (tf_al G o 0 (9, 7, [])) o 1 (9, 368, [])) o 2 (9, 368, [])) o 4 (9, 48, [])) from rfl]
  rw [l3]
  show tf_K x (0 + 1 + 1 + 1 + 1) (0 + 7 + 368 + 368 + 48) (tf_al (tf_al (tf_al (tf_al G o 0 (9, 7, [])) o 1 (9, 368, [])) o 2 (9, 368, [])) o 4 (9, 48, [])) (tf_new (tf_new (tf_new (tf_new S G.length) (G.length + 1)) (G.length + 2)) (G.length + 3)) 38 [some (.ref o), none] []
  refine tf_go hx ftX11_init 2 [] 40 [some (.ref o), some (.int 0)] [] (tf_new (tf_new (tf_new (tf_new S G.length) (G.length + 1)) (G.length + 2)) (G.length + 3)) rfl ⟨by decide, by decide, rfl⟩ trivial ?_
  have q1 : tf_rf (tf_al (tf_al (tf_al (tf_al G o 0 (9, 7, [])) o 1 (9, 368, [])) o 2 (9, 368, [])) o 4 (9, 48, [])) o 1 = G.length + 1 := by unfold tf_rf; rw [e4]; rfl
  have f1 : tf_e (tf_al (tf_al (tf_al (tf_al G o 0 (9, 7, [])) o 1 (9, 368, [])) o 2 (9, 368, [])) o 4 (9, 48, [])) (G.length + 1) = (9, 368, []) := by rw [tf_al_i (by omega) (by omega) (by omega), tf_al_i (by omega) (by omega) (by omega), tf_al_n (by omega) (by omega)]
  have t1 : tf_tg (tf_al (tf_al (tf_al (tf_al G o 0 (9, 7, [])) o 1 (9, 368, [])) o 2 (9, 368, [])) o 4 (9, 48, [])) (tf_rf (tf_al (tf_al (tf_al (tf_al G o 0 (9, 7, [])) o 1 (9, 368, [])) o 2 (9, 368, [])) o 4 (9, 48, [])) o 1) = 9 := by rw [q1]; unfold tf_tg; rw [f1]
  have n1 : tf_ln (tf_al (tf_al (tf_al (tf_al G o 0 (9, 7, [])) o 1 (9, 368, [])) o 2 (9, 368, [])) o 4 (9, 48, [])) (tf_rf (tf_al (tf_al (tf_al (tf_al G o 0 (9, 7, [])) o 1 (9, 368, [])) o 2 (9, 368, [])) o 4 (9, 48, [])) o 1) = 368 := by rw [q1]; unfold tf_ln; rw [f1]
  have to : tf_tg (tf_al (tf_al (tf_al (tf_al G o 0 (9, 7, [])) o 1 (9, 368, [])) o 2 (9, 368, [])) o 4 (9, 48, [])) o = 8 := by unfold tf_tg; rw [e4]
  have hid : (tf_rw (tf_new (tf_new (tf_new (tf_new S G.length) (G.length + 1)) (G.length + 2)) (G.length + 3)) (tf_rf (tf_al (tf_al (tf_al (tf_al G o 0 (9, 7, [])) o 1 (9, 368, [])) o 2 (9, 368, [])) o 4 (9, 48, [])) o 1) (tf_i0 0)) = (tf_new (tf_new (tf_new (tf_new S G.length) (G.length + 1)) (G.length + 2)) (G.length + 3)) := by rw [tf_i0_0, q1]; apply tf_rw_0; intro k; show (if G.length + 1 = G.length + 3 then 0 else if G.length + 1 = G.length + 2 then 0 else if G.length + 1 = G.length + 1 then 0 else _) = (0 : Int32); rw [if_neg (by omega), if_neg (by omega), if_pos rfl]
  have loop : ∀ (m k : Nat), k + m = 4 → tf_K x (0 + 1 + 1 + 1 + 1) (0 + 7 + 368 + 368 + 48) (tf_al (tf_al (tf_al (tf_al G o 0 (9, 7, [])) o 1 (9, 368, [])) o 2 (9, 368, [])) o 4 (9, 48, [])) (tf_rw (tf_new (tf_new (tf_new (tf_new S G.length) (G.length + 1)) (G.length + 2)) (G.length + 3)) (tf_rf (tf_al (tf_al (tf_al (tf_al G o 0 (9, 7, [])) o 1 (9, 368, [])) o 2 (9, 368, [])) o 4 (9, 48, [])) o 1) (tf_i0 k)) 40 [some (.ref o), some (.int (nI k))] [] := by
    intro m
    induction m with
    | zero =>
      intro k hk
      refine tf_go hx ftX11_init 2 [] 42 [some (.ref o), some (.int (nI k))] [.int 4, .int (nI k)] (tf_rw (tf_new (tf_new (tf_new (tf_new S G.length) (G.length + 1)) (G.length + 2)) (G.length + 3)) (tf_rf (tf_al (tf_al (tf_al (tf_al G o 0 (9, 7, [])) o 1 (9, 368, [])) o 2 (9, 368, [])) o 4 (9, 48, [])) o 1) (tf_i0 k)) rfl ⟨by decide, by decide, rfl⟩ trivial ?_
      refine tf_go hx ftX11_init 1 [true] 146 [some (.ref o), some (.int (nI k))] [] (tf_rw (tf_new (tf_new (tf_new (tf_new S G.length) (G.length + 1)) (G.length + 2)) (G.length + 3)) (tf_rf (tf_al (tf_al (tf_al (tf_al G o 0 (9, 7, [])) o 1 (9, 368, [])) o 2 (9, 368, [])) o 4 (9, 48, [])) o 1) (tf_i0 k)) rfl ⟨by decide, by decide, rfl⟩ ⟨trivial, (tf_leT (a := 4) (b := k) (rfl : (4 : Int32) = nI 4) rfl (by omega) (by omega) (by omega))⟩ ?_
      exact tf_ret ftX11_init hR rfl ⟨by decide, by decide⟩ rfl (by rw [show k = 4 by omega, q1]) rfl
    | succ m ih =>
      intro k hk
      refine tf_go hx ftX11_init 2 [] 42 [some (.ref o), some (.int (nI k))] [.int 4, .int (nI k)] (tf_rw (tf_new (tf_new (tf_new (tf_new S G.length) (G.length + 1)) (G.length + 2)) (G.length + 3)) (tf_rf (tf_al (tf_al (tf_al (tf_al G o 0 (9, 7, [])) o 1 (9, 368, [])) o 2 (9, 368, [])) o 4 (9, 48, [])) o 1) (tf_i0 k)) rfl ⟨by decide, by decide, rfl⟩ trivial ?_
      refine tf_go hx ftX11_init 1 [false] 45 [some (.ref o), some (.int (nI k))] [] (tf_rw (tf_new (tf_new (tf_new (tf_new S G.length) (G.length + 1)) (G.length + 2)) (G.length + 3)) (tf_rf (tf_al (tf_al (tf_al (tf_al G o 0 (9, 7, [])) o 1 (9, 368, [])) o 2 (9, 368, [])) o 4 (9, 48, [])) o 1) (tf_i0 k)) rfl ⟨by decide, by decide, rfl⟩ ⟨trivial, (tf_leF (a := 4) (b := k) (rfl : (4 : Int32) = nI 4) rfl (by omega) (by omega) (by omega))⟩ ?_
      refine tf_go hx ftX11_init 8 [] 58 [some (.ref o), some (.int (nI k))] [.int 100, .int (120 + (6 * (nI k))), .ref (tf_rf (tf_al (tf_al (tf_al (tf_al G o 0 (9, 7, [])) o 1 (9, 368, [])) o 2 (9, 368, [])) o 4 (9, 48, [])) o 1)] (tf_rw (tf_new (tf_new (tf_new (tf_new S G.length) (G.length + 1)) (G.length + 2)) (G.length + 3)) (tf_rf (tf_al (tf_al (tf_al (tf_al G o 0 (9, 7, [])) o 1 (9, 368, [])) o 2 (9, 368, [])) o 4 (9, 48, [])) o 1) (tf_i0 k)) rfl ⟨by decide, by decide, rfl⟩ ⟨trivial, ⟨by first | assumption | rfl | decide | omega, by first | assumption | rfl | decide | omega⟩⟩ ?_
      rw [show (120 + (6 * (nI k))) = nI (120 + (6 * k)) from (tf_add (a := 120) (b := (6 * k)) (rfl : (120 : Int32) = nI 120) (tf_mul (a := 6) (b := k) (rfl : (6 : Int32) = nI 6) rfl))]
      show tf_K x (0 + 1 + 1 + 1 + 1) (0 + 7 + 368 + 368 + 48) (tf_al (tf_al (tf_al (tf_al G o 0 (9, 7, [])) o 1 (9, 368, [])) o 2 (9, 368, [])) o 4 (9, 48, [])) (tf_rw (tf_new (tf_new (tf_new (tf_new S G.length) (G.length + 1)) (G.length + 2)) (G.length + 3)) (tf_rf (tf_al (tf_al (tf_al (tf_al G o 0 (9, 7, [])) o 1 (9, 368, [])) o 2 (9, 368, [])) o 4 (9, 48, [])) o 1) (tf_i0 k)) 58 [some (.ref o), some (.int (nI k))] [.int (nI 100), .int (nI (120 + (6 * k))), .ref (tf_rf (tf_al (tf_al (tf_al (tf_al G o 0 (9, 7, [])) o 1 (9, 368, [])) o 2 (9, 368, [])) o 4 (9, 48, [])) o 1)]
      refine tf_go hx ftX11_init 1 [] 59 [some (.ref o), some (.int (nI k))] [] (tf_set (tf_rw (tf_new (tf_new (tf_new (tf_new S G.length) (G.length + 1)) (G.length + 2)) (G.length + 3)) (tf_rf (tf_al (tf_al (tf_al (tf_al G o 0 (9, 7, [])) o 1 (9, 368, [])) o 2 (9, 368, [])) o 4 (9, 48, [])) o 1) (tf_i0 k)) (tf_rf (tf_al (tf_al (tf_al (tf_al G o 0 (9, 7, [])) o 1 (9, 368, [])) o 2 (9, 368, [])) o 4 (9, 48, [])) o 1) (Int32.toNatClampNeg (nI (120 + (6 * k)))) (nI 100)) rfl ⟨by decide, by decide, rfl⟩ ⟨trivial, ⟨by first | assumption | rfl | decide | omega, by first | assumption | exact tf_in (n := (120 + (6 * k))) rfl (by first | assumption | rfl) (by omega) (by decide)⟩⟩ ?_
      rw [show Int32.toNatClampNeg (nI (120 + (6 * k))) = (120 + (6 * k)) from tf_cln rfl (by omega)]
      rw [tf_rw_u2]
      refine tf_go hx ftX11_init 10 [] 74 [some (.ref o), some (.int (nI k))] [.int 120, .int ((120 + (6 * (nI k))) + 1), .ref (tf_rf (tf_al (tf_al (tf_al (tf_al G o 0 (9, 7, [])) o 1 (9, 368, [])) o 2 (9, 368, [])) o 4 (9, 48, [])) o 1)] (tf_rw (tf_new (tf_new (tf_new (tf_new S G.length) (G.length + 1)) (G.length + 2)) (G.length + 3)) (tf_rf (tf_al (tf_al (tf_al (tf_al G o 0 (9, 7, [])) o 1 (9, 368, [])) o 2 (9, 368, [])) o 4 (9, 48, [])) o 1) (tf_u (tf_i0 k) (120 + 6 * k) 100)) rfl ⟨by decide, by decide, rfl⟩ ⟨trivial, ⟨by first | assumption | rfl | decide | omega, by first | assumption | rfl | decide | omega⟩⟩ ?_
      rw [show ((120 + (6 * (nI k))) + 1) = nI ((120 + (6 * k)) + 1) from (tf_add (a := (120 + (6 * k))) (b := 1) (tf_add (a := 120) (b := (6 * k)) (rfl : (120 : Int32) = nI 120) (tf_mul (a := 6) (b := k) (rfl : (6 : Int32) = nI 6) rfl)) (rfl : (1 : Int32) = nI 1))]
      show tf_K x (0 + 1 + 1 + 1 + 1) (0 + 7 + 368 + 368 + 48) (tf_al (tf_al (tf_al (tf_al G o 0 (9, 7, [])) o 1 (9, 368, [])) o 2 (9, 368, [])) o 4 (9, 48, [])) (tf_rw (tf_new (tf_new (tf_new (tf_new S G.length) (G.length + 1)) (G.length + 2)) (G.length + 3)) (tf_rf (tf_al (tf_al (tf_al (tf_al G o 0 (9, 7, [])) o 1 (9, 368, [])) o 2 (9, 368, [])) o 4 (9, 48, [])) o 1) (tf_u (tf_i0 k) (120 + 6 * k) 100)) 74 [some (.ref o), some (.int (nI k))] [.int (nI 120), .int (nI ((120 + (6 * k)) + 1)), .ref (tf_rf (tf_al (tf_al (tf_al (tf_al G o 0 (9, 7, [])) o 1 (9, 368, [])) o 2 (9, 368, [])) o 4 (9, 48, [])) o 1)]
      refine tf_go hx ftX11_init 1 [] 75 [some (.ref o), some (.int (nI k))] [] (tf_set (tf_rw (tf_new (tf_new (tf_new (tf_new S G.length) (G.length + 1)) (G.length + 2)) (G.length + 3)) (tf_rf (tf_al (tf_al (tf_al (tf_al G o 0 (9, 7, [])) o 1 (9, 368, [])) o 2 (9, 368, [])) o 4 (9, 48, [])) o 1) (tf_u (tf_i0 k) (120 + 6 * k) 100)) (tf_rf (tf_al (tf_al (tf_al (tf_al G o 0 (9, 7, [])) o 1 (9, 368, [])) o 2 (9, 368, [])) o 4 (9, 48, [])) o 1) (Int32.toNatClampNeg (nI ((120 + (6 * k)) + 1))) (nI 120)) rfl ⟨by decide, by decide, rfl⟩ ⟨trivial, ⟨by first | assumption | rfl | decide | omega, by first | assumption | exact tf_in (n := ((120 + (6 * k)) + 1)) rfl (by first | assumption | rfl) (by omega) (by decide)⟩⟩ ?_
      rw [show Int32.toNatClampNeg (nI ((120 + (6 * k)) + 1)) = ((120 + (6 * k)) + 1) from tf_cln rfl (by omega)]
      rw [tf_rw_u2]
      refine tf_go hx ftX11_init 10 [] 90 [some (.ref o), some (.int (nI k))] [.int 90, .int ((120 + (6 * (nI k))) + 2), .ref (tf_rf (tf_al (tf_al (tf_al (tf_al G o 0 (9, 7, [])) o 1 (9, 368, [])) o 2 (9, 368, [])) o 4 (9, 48, [])) o 1)] (tf_rw (tf_new (tf_new (tf_new (tf_new S G.length) (G.length + 1)) (G.length + 2)) (G.length + 3)) (tf_rf (tf_al (tf_al (tf_al (tf_al G o 0 (9, 7, [])) o 1 (9, 368, [])) o 2 (9, 368, [])) o 4 (9, 48, [])) o 1) (tf_u (tf_u (tf_i0 k) (120 + 6 * k) 100) (120 + 6 * k + 1) 120)) rfl ⟨by decide, by decide, rfl⟩ ⟨trivial, ⟨by first | assumption | rfl | decide | omega, by first | assumption | rfl | decide | omega⟩⟩ ?_
      rw [show ((120 + (6 * (nI k))) + 2) = nI ((120 + (6 * k)) + 2) from (tf_add (a := (120 + (6 * k))) (b := 2) (tf_add (a := 120) (b := (6 * k)) (rfl : (120 : Int32) = nI 120) (tf_mul (a := 6) (b := k) (rfl : (6 : Int32) = nI 6) rfl)) (rfl : (2 : Int32) = nI 2))]
      show tf_K x (0 + 1 + 1 + 1 + 1) (0 + 7 + 368 + 368 + 48) (tf_al (tf_al (tf_al (tf_al G o 0 (9, 7, [])) o 1 (9, 368, [])) o 2 (9, 368, [])) o 4 (9, 48, [])) (tf_rw (tf_new (tf_new (tf_new (tf_new S G.length) (G.length + 1)) (G.length + 2)) (G.length + 3)) (tf_rf (tf_al (tf_al (tf_al (tf_al G o 0 (9, 7, [])) o 1 (9, 368, [])) o 2 (9, 368, [])) o 4 (9, 48, [])) o 1) (tf_u (tf_u (tf_i0 k) (120 + 6 * k) 100) (120 + 6 * k + 1) 120)) 90 [some (.ref o), some (.int (nI k))] [.int (nI 90), .int (nI ((120 + (6 * k)) + 2)), .ref (tf_rf (tf_al (tf_al (tf_al (tf_al G o 0 (9, 7, [])) o 1 (9, 368, [])) o 2 (9, 368, [])) o 4 (9, 48, [])) o 1)]
      refine tf_go hx ftX11_init 1 [] 91 [some (.ref o), some (.int (nI k))] [] (tf_set (tf_rw (tf_new (tf_new (tf_new (tf_new S G.length) (G.length + 1)) (G.length + 2)) (G.length + 3)) (tf_rf (tf_al (tf_al (tf_al (tf_al G o 0 (9, 7, [])) o 1 (9, 368, [])) o 2 (9, 368, [])) o 4 (9, 48, [])) o 1) (tf_u (tf_u (tf_i0 k) (120 + 6 * k) 100) (120 + 6 * k + 1) 120)) (tf_rf (tf_al (tf_al (tf_al (tf_al G o 0 (9, 7, [])) o 1 (9, 368, [])) o 2 (9, 368, [])) o 4 (9, 48, [])) o 1) (Int32.toNatClampNeg (nI ((120 + (6 * k)) + 2))) (nI 90)) rfl ⟨by decide, by decide, rfl⟩ ⟨trivial, ⟨by first | assumption | rfl | decide | omega, by first | assumption | exact tf_in (n := ((120 + (6 * k)) + 2)) rfl (by first | assumption | rfl) (by omega) (by decide)⟩⟩ ?_
      rw [show Int32.toNatClampNeg (nI ((120 + (6 * k)) + 2)) = ((120 + (6 * k)) + 2) from tf_cln rfl (by omega)]
      rw [tf_rw_u2]
      refine tf_go hx ftX11_init 10 [] 107 [some (.ref o), some (.int (nI k))] [.int 150, .int ((120 + (6 * (nI k))) + 3), .ref (tf_rf (tf_al (tf_al (tf_al (tf_al G o 0 (9, 7, [])) o 1 (9, 368, [])) o 2 (9, 368, [])) o 4 (9, 48, [])) o 1)] (tf_rw (tf_new (tf_new (tf_new (tf_new S G.length) (G.length + 1)) (G.length + 2)) (G.length + 3)) (tf_rf (tf_al (tf_al (tf_al (tf_al G o 0 (9, 7, [])) o 1 (9, 368, [])) o 2 (9, 368, [])) o 4 (9, 48, [])) o 1) (tf_u (tf_u (tf_u (tf_i0 k) (120 + 6 * k) 100) (120 + 6 * k + 1) 120) (120 + 6 * k + 2) 90)) rfl ⟨by decide, by decide, rfl⟩ ⟨trivial, ⟨by first | assumption | rfl | decide | omega, by first | assumption | rfl | decide | omega⟩⟩ ?_
      rw [show ((120 + (6 * (nI k))) + 3) = nI ((120 + (6 * k)) + 3) from (tf_add (a := (120 + (6 * k))) (b := 3) (tf_add (a := 120) (b := (6 * k)) (rfl : (120 : Int32) = nI 120) (tf_mul (a := 6) (b := k) (rfl : (6 : Int32) = nI 6) rfl)) (rfl : (3 : Int32) = nI 3))]
      show tf_K x (0 + 1 + 1 + 1 + 1) (0 + 7 + 368 + 368 + 48) (tf_al (tf_al (tf_al (tf_al G o 0 (9, 7, [])) o 1 (9, 368, [])) o 2 (9, 368, [])) o 4 (9, 48, [])) (tf_rw (tf_new (tf_new (tf_new (tf_new S G.length) (G.length + 1)) (G.length + 2)) (G.length + 3)) (tf_rf (tf_al (tf_al (tf_al (tf_al G o 0 (9, 7, [])) o 1 (9, 368, [])) o 2 (9, 368, [])) o 4 (9, 48, [])) o 1) (tf_u (tf_u (tf_u (tf_i0 k) (120 + 6 * k) 100) (120 + 6 * k + 1) 120) (120 + 6 * k + 2) 90)) 107 [some (.ref o), some (.int (nI k))] [.int (nI 150), .int (nI ((120 + (6 * k)) + 3)), .ref (tf_rf (tf_al (tf_al (tf_al (tf_al G o 0 (9, 7, [])) o 1 (9, 368, [])) o 2 (9, 368, [])) o 4 (9, 48, [])) o 1)]
      refine tf_go hx ftX11_init 1 [] 108 [some (.ref o), some (.int (nI k))] [] (tf_set (tf_rw (tf_new (tf_new (tf_new (tf_new S G.length) (G.length + 1)) (G.length + 2)) (G.length + 3)) (tf_rf (tf_al (tf_al (tf_al (tf_al G o 0 (9, 7, [])) o 1 (9, 368, [])) o 2 (9, 368, [])) o 4 (9, 48, [])) o 1) (tf_u (tf_u (tf_u (tf_i0 k) (120 + 6 * k) 100) (120 + 6 * k + 1) 120) (120 + 6 * k + 2) 90)) (tf_rf (tf_al (tf_al (tf_al (tf_al G o 0 (9, 7, [])) o 1 (9, 368, [])) o 2 (9, 368, [])) o 4 (9, 48, [])) o 1) (Int32.toNatClampNeg (nI ((120 + (6 * k)) + 3))) (nI 150)) rfl ⟨by decide, by decide, rfl⟩ ⟨trivial, ⟨by first | assumption | rfl | decide | omega, by first | assumption | exact tf_in (n := ((120 + (6 * k)) + 3)) rfl (by first | assumption | rfl) (by omega) (by decide)⟩⟩ ?_
      rw [show Int32.toNatClampNeg (nI ((120 + (6 * k)) + 3)) = ((120 + (6 * k)) + 3) from tf_cln rfl (by omega)]
      rw [tf_rw_u2]
      refine tf_go hx ftX11_init 10 [] 123 [some (.ref o), some (.int (nI k))] [.int 20, .int ((120 + (6 * (nI k))) + 4), .ref (tf_rf (tf_al (tf_al (tf_al (tf_al G o 0 (9, 7, [])) o 1 (9, 368, [])) o 2 (9, 368, [])) o 4 (9, 48, [])) o 1)] (tf_rw (tf_new (tf_new (tf_new (tf_new S G.length) (G.length + 1)) (G.length + 2)) (G.length + 3)) (tf_rf (tf_al (tf_al (tf_al (tf_al G o 0 (9, 7, [])) o 1 (9, 368, [])) o 2 (9, 368, [])) o 4 (9, 48, [])) o 1) (tf_u (tf_u (tf_u (tf_u (tf_i0 k) (120 + 6 * k) 100) (120 + 6 * k + 1) 120) (120 + 6 * k + 2) 90) (120 + 6 * k + 3) 150)) rfl ⟨by decide, by decide, rfl⟩ ⟨trivial, ⟨by first | assumption | rfl | decide | omega, by first | assumption | rfl | decide | omega⟩⟩ ?_
      rw [show ((120 + (6 * (nI k))) + 4) = nI ((120 + (6 * k)) + 4) from (tf_add (a := (120 + (6 * k))) (b := 4) (tf_add (a := 120) (b := (6 * k)) (rfl : (120 : Int32) = nI 120) (tf_mul (a := 6) (b := k) (rfl : (6 : Int32) = nI 6) rfl)) (rfl : (4 : Int32) = nI 4))]
      show tf_K x (0 + 1 + 1 + 1 + 1) (0 + 7 + 368 + 368 + 48) (tf_al (tf_al (tf_al (tf_al G o 0 (9, 7, [])) o 1 (9, 368, [])) o 2 (9, 368, [])) o 4 (9, 48, [])) (tf_rw (tf_new (tf_new (tf_new (tf_new S G.length) (G.length + 1)) (G.length + 2)) (G.length + 3)) (tf_rf (tf_al (tf_al (tf_al (tf_al G o 0 (9, 7, [])) o 1 (9, 368, [])) o 2 (9, 368, [])) o 4 (9, 48, [])) o 1) (tf_u (tf_u (tf_u (tf_u (tf_i0 k) (120 + 6 * k) 100) (120 + 6 * k + 1) 120) (120 + 6 * k + 2) 90) (120 + 6 * k + 3) 150)) 123 [some (.ref o), some (.int (nI k))] [.int (nI 20), .int (nI ((120 + (6 * k)) + 4)), .ref (tf_rf (tf_al (tf_al (tf_al (tf_al G o 0 (9, 7, [])) o 1 (9, 368, [])) o 2 (9, 368, [])) o 4 (9, 48, [])) o 1)]
      refine tf_go hx ftX11_init 1 [] 124 [some (.ref o), some (.int (nI k))] [] (tf_set (tf_rw (tf_new (tf_new (tf_new (tf_new S G.length) (G.length + 1)) (G.length + 2)) (G.length + 3)) (tf_rf (tf_al (tf_al (tf_al (tf_al G o 0 (9, 7, [])) o 1 (9, 368, [])) o 2 (9, 368, [])) o 4 (9, 48, [])) o 1) (tf_u (tf_u (tf_u (tf_u (tf_i0 k) (120 + 6 * k) 100) (120 + 6 * k + 1) 120) (120 + 6 * k + 2) 90) (120 + 6 * k + 3) 150)) (tf_rf (tf_al (tf_al (tf_al (tf_al G o 0 (9, 7, [])) o 1 (9, 368, [])) o 2 (9, 368, [])) o 4 (9, 48, [])) o 1) (Int32.toNatClampNeg (nI ((120 + (6 * k)) + 4))) (nI 20)) rfl ⟨by decide, by decide, rfl⟩ ⟨trivial, ⟨by first | assumption | rfl | decide | omega, by first | assumption | exact tf_in (n := ((120 + (6 * k)) + 4)) rfl (by first | assumption | rfl) (by omega) (by decide)⟩⟩ ?_
      rw [show Int32.toNatClampNeg (nI ((120 + (6 * k)) + 4)) = ((120 + (6 * k)) + 4) from tf_cln rfl (by omega)]
      rw [tf_rw_u2]
      refine tf_go hx ftX11_init 10 [] 139 [some (.ref o), some (.int (nI k))] [.int 15, .int ((120 + (6 * (nI k))) + 5), .ref (tf_rf (tf_al (tf_al (tf_al (tf_al G o 0 (9, 7, [])) o 1 (9, 368, [])) o 2 (9, 368, [])) o 4 (9, 48, [])) o 1)] (tf_rw (tf_new (tf_new (tf_new (tf_new S G.length) (G.length + 1)) (G.length + 2)) (G.length + 3)) (tf_rf (tf_al (tf_al (tf_al (tf_al G o 0 (9, 7, [])) o 1 (9, 368, [])) o 2 (9, 368, [])) o 4 (9, 48, [])) o 1) (tf_u (tf_u (tf_u (tf_u (tf_u (tf_i0 k) (120 + 6 * k) 100) (120 + 6 * k + 1) 120) (120 + 6 * k + 2) 90) (120 + 6 * k + 3) 150) (120 + 6 * k + 4) 20)) rfl ⟨by decide, by decide, rfl⟩ ⟨trivial, ⟨by first | assumption | rfl | decide | omega, by first | assumption | rfl | decide | omega⟩⟩ ?_
      rw [show ((120 + (6 * (nI k))) + 5) = nI ((120 + (6 * k)) + 5) from (tf_add (a := (120 + (6 * k))) (b := 5) (tf_add (a := 120) (b := (6 * k)) (rfl : (120 : Int32) = nI 120) (tf_mul (a := 6) (b := k) (rfl : (6 : Int32) = nI 6) rfl)) (rfl : (5 : Int32) = nI 5))]
      show tf_K x (0 + 1 + 1 + 1 + 1) (0 + 7 + 368 + 368 + 48) (tf_al (tf_al (tf_al (tf_al G o 0 (9, 7, [])) o 1 (9, 368, [])) o 2 (9, 368, [])) o 4 (9, 48, [])) (tf_rw (tf_new (tf_new (tf_new (tf_new S G.length) (G.length + 1)) (G.length + 2)) (G.length + 3)) (tf_rf (tf_al (tf_al (tf_al (tf_al G o 0 (9, 7, [])) o 1 (9, 368, [])) o 2 (9, 368, [])) o 4 (9, 48, [])) o 1) (tf_u (tf_u (tf_u (tf_u (tf_u (tf_i0 k) (120 + 6 * k) 100) (120 + 6 * k + 1) 120) (120 + 6 * k + 2) 90) (120 + 6 * k + 3) 150) (120 + 6 * k + 4) 20)) 139 [some (.ref o), some (.int (nI k))] [.int (nI 15), .int (nI ((120 + (6 * k)) + 5)), .ref (tf_rf (tf_al (tf_al (tf_al (tf_al G o 0 (9, 7, [])) o 1 (9, 368, [])) o 2 (9, 368, [])) o 4 (9, 48, [])) o 1)]
      refine tf_go hx ftX11_init 1 [] 140 [some (.ref o), some (.int (nI k))] [] (tf_set (tf_rw (tf_new (tf_new (tf_new (tf_new S G.length) (G.length + 1)) (G.length + 2)) (G.length + 3)) (tf_rf (tf_al (tf_al (tf_al (tf_al G o 0 (9, 7, [])) o 1 (9, 368, [])) o 2 (9, 368, [])) o 4 (9, 48, [])) o 1) (tf_u (tf_u (tf_u (tf_u (tf_u (tf_i0 k) (120 + 6 * k) 100) (120 + 6 * k + 1) 120) (120 + 6 * k + 2) 90) (120 + 6 * k + 3) 150) (120 + 6 * k + 4) 20)) (tf_rf (tf_al (tf_al (tf_al (tf_al G o 0 (9, 7, [])) o 1 (9, 368, [])) o 2 (9, 368, [])) o 4 (9, 48, [])) o 1) (Int32.toNatClampNeg (nI ((120 + (6 * k)) + 5))) (nI 15)) rfl ⟨by decide, by decide, rfl⟩ ⟨trivial, ⟨by first | assumption | rfl | decide | omega, by first | assumption | exact tf_in (n := ((120 + (6 * k)) + 5)) rfl (by first | assumption | rfl) (by omega) (by decide)⟩⟩ ?_
      rw [show Int32.toNatClampNeg (nI ((120 + (6 * k)) + 5)) = ((120 + (6 * k)) + 5) from tf_cln rfl (by omega)]
      rw [tf_rw_u2]
      rw [tf_i0_s]
      refine tf_go hx ftX11_init 2 [] 40 [some (.ref o), some (.int ((nI k) + 1))] [] (tf_rw (tf_new (tf_new (tf_new (tf_new S G.length) (G.length + 1)) (G.length + 2)) (G.length + 3)) (tf_rf (tf_al (tf_al (tf_al (tf_al G o 0 (9, 7, [])) o 1 (9, 368, [])) o 2 (9, 368, [])) o 4 (9, 48, [])) o 1) (tf_i0 (k + 1))) rfl ⟨by decide, by decide, rfl⟩ trivial ?_
      rw [show ((nI k) + 1) = nI (k + 1) from (tf_add (a := k) (b := 1) rfl (rfl : (1 : Int32) = nI 1))]
      exact ih (k + 1) (by omega)
  have h0 := loop 4 0 (by omega)
  rw [hid] at h0
  exact h0

