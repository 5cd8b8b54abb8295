def hpz (N : Nat) : tf_G := [(99, 0, []), (14, 10, []), (14, 6, []), (14, N, [])]
set_option maxRecDepth 100000 in
theorem lL_9 : tf_okI RL 9 0 mX10_init := by unfold tf_okI tf_okL; decide +kernel

set_option maxRecDepth 100000 in
theorem lL_12 : tf_okI RL 12 0 mX11_init := by unfold tf_okI tf_okL; decide +kernel

set_option maxRecDepth 100000 in
theorem nl_L_7 : 7 < 9 ∧ Cond.classLink RL 7 (tf_cl 7).1 ∈ tf_TB ∧ Cond.instantiable (tf_cl 7).1 (tf_cl 7).2.2 ∈ tf_TB ∧ Cond.initialized (tf_cl 7).1 ∈ tf_TB := ⟨by decide, by decide +kernel, by decide +kernel, by decide +kernel⟩

set_option maxRecDepth 100000 in
theorem nl_L_10 : 8 < 9 ∧ Cond.classLink RL 10 (tf_cl 8).1 ∈ tf_TB ∧ Cond.instantiable (tf_cl 8).1 (tf_cl 8).2.2 ∈ tf_TB ∧ Cond.initialized (tf_cl 8).1 ∈ tf_TB := ⟨by decide, by decide +kernel, by decide +kernel, by decide +kernel⟩

def hp126 (N : Nat) : tf_G := [(99, 0, []), (14, 10, []), (14, 6, []), (14, N, []), (7, 0, [5, 57, 109, 111, 120, 124, 0]), (4, 0, [6, 19, 28, 30, 32, 55]), (11, 4, [7, 10, 13, 16]), (0, 0, [8, 9]), (9, 30, []), (9, 26, []),
  (0, 0, [11, 12]), (9, 30, []), (9, 26, []), (0, 0, [14, 15]), (9, 30, []), (9, 26, []), (0, 0, [17, 18]), (9, 30, []), (9, 26, []), (12, 4, [20, 22, 24, 26]),
  (1, 0, [21]), (9, 6, []), (1, 0, [23]), (9, 6, []), (1, 0, [25]), (9, 6, []), (1, 0, [27]), (9, 6, []), (3, 0, [29, 0]), (9, 40, []),
  (3, 0, [31, 0]), (9, 40, []), (6, 0, [33, 54, 0]), (13, 10, [34, 36, 38, 40, 42, 44, 46, 48, 50, 52]), (3, 0, [35, 0]), (9, 8, []), (3, 0, [37, 0]), (9, 8, []), (3, 0, [39, 0]), (9, 8, []),
  (3, 0, [41, 0]), (9, 8, []), (3, 0, [43, 0]), (9, 8, []), (3, 0, [45, 0]), (9, 8, []), (3, 0, [47, 0]), (9, 8, []), (3, 0, [49, 0]), (9, 8, []),
  (3, 0, [51, 0]), (9, 8, []), (3, 0, [53, 0]), (9, 8, []), (9, 10, []), (3, 0, [56, 0]), (9, 40, []), (4, 0, [58, 71, 80, 82, 84, 107]), (11, 4, [59, 62, 65, 68]), (0, 0, [60, 61]),
  (9, 30, []), (9, 26, []), (0, 0, [63, 64]), (9, 30, []), (9, 26, []), (0, 0, [66, 67]), (9, 30, []), (9, 26, []), (0, 0, [69, 70]), (9, 30, []),
  (9, 26, []), (12, 4, [72, 74, 76, 78]), (1, 0, [73]), (9, 6, []), (1, 0, [75]), (9, 6, []), (1, 0, [77]), (9, 6, []), (1, 0, [79]), (9, 6, []),
  (3, 0, [81, 0]), (9, 40, []), (3, 0, [83, 0]), (9, 40, []), (6, 0, [85, 106, 0]), (13, 10, [86, 88, 90, 92, 94, 96, 98, 100, 102, 104]), (3, 0, [87, 0]), (9, 8, []), (3, 0, [89, 0]), (9, 8, []),
  (3, 0, [91, 0]), (9, 8, []), (3, 0, [93, 0]), (9, 8, []), (3, 0, [95, 0]), (9, 8, []), (3, 0, [97, 0]), (9, 8, []), (3, 0, [99, 0]), (9, 8, []),
  (3, 0, [101, 0]), (9, 8, []), (3, 0, [103, 0]), (9, 8, []), (3, 0, [105, 0]), (9, 8, []), (9, 10, []), (3, 0, [108, 0]), (9, 40, []), (3, 0, [110, 0]),
  (9, 48, []), (2, 0, [112, 114, 116, 118]), (3, 0, [113, 0]), (9, 40, []), (3, 0, [115, 0]), (9, 40, []), (3, 0, [117, 0]), (9, 40, []), (3, 0, [119, 0]), (9, 40, []),
  (5, 0, [121, 123]), (3, 0, [122, 0]), (9, 40, []), (10, 30, []), (9, 7, []), (8, 0, [0, 0, 0, 0, 0, 0])]
set_option maxHeartbeats 4000000 in
set_option maxRecDepth 20000 in
theorem law_begin {N : Nat} {z : Nat → Int32} {x : tf_X} {S : tf_Sg} (hx : tf_C x cL_law RL 4 9 200 5000 false) (hN : N ≤ 320) (hEnd : ∀ (Y : tf_Sg) (ls : List (Option Value)), tf_K x 200 5000 (tf_GG N) Y 1309 ls [.int 1]) (hz : ∀ a, 4 ≤ a → ∀ k, S a k = 0) (h1 : ∀ j, j < 10 → S 1 j = nI (tf_fi j 0)) (h2 : ∀ j, S 2 j = nI (tf_l0 j)) (h3 : ∀ j, S 3 j = z j) : tf_K x 0 0 (hpz N) S 0 [some (.ref 3), none, none, none] [] := by
  refine tf_knew hx ftL_law 7 rfl nl_L_7 ⟨by decide, by decide⟩ (tf_vs_r (show 3 < 4 by decide) tf_vs_0) tf_vs_0 ?_
  show tf_K x 1 7 ((hpz N) ++ [tf_z0 7]) (tf_new S 4) 3 [some (.ref 3), none, none, none] [.ref 4]
  rw [show tf_new S 4 = S from (tf_new_id (n := 4) (fun k => hz 4 (by decide) k))]
  show tf_K x 1 7 (hp1 N) S 3 [some (.ref 3), none, none, none] [.ref 4]
  refine tf_go hx ftL_law 1 [] 4 [some (.ref 3), none, none, none] [.ref 4, .ref 4] S rfl ⟨by decide, by decide, rfl⟩ trivial ?_
  refine tf_kI hx ftL_law (As := []) (rest := [.ref 4]) (i_ten4 (N := N) (S := S) hz h2) rfl lL_9 rfl rfl ⟨by decide, by decide, by decide, rfl⟩ (tf_vs_r (show 3 < 5 by decide) tf_vs_0) (tf_vs_r (show 4 < 5 by decide) tf_vs_0) ?_
  show tf_K x 121 1356 (hp125 N) (iS (iS S 5) 57) 7 [some (.ref 3), none, none, none] [.ref 4]
  refine tf_go hx ftL_law 1 [] 8 [some (.ref 3), some (.ref 4), none, none] [] (iS (iS S 5) 57) rfl ⟨by decide, by decide, rfl⟩ trivial ?_
  refine tf_knew hx ftL_law 8 rfl nl_L_10 ⟨by decide, by decide⟩ (tf_vs_r (show 3 < 125 by decide) (tf_vs_r (show 4 < 125 by decide) tf_vs_0)) tf_vs_0 ?_
  show tf_K x 122 1362 ((hp125 N) ++ [tf_z0 8]) (tf_new (iS (iS S 5) 57) 125) 11 [some (.ref 3), some (.ref 4), none, none] [.ref 125]
  rw [show tf_new (iS (iS S 5) 57) 125 = (iS (iS S 5) 57) from (tf_new_id (n := 125) (fun k => (by rw [iS_fr (by omega), iS_fr (by omega)]; exact hz 125 (by decide) k)))]
  show tf_K x 122 1362 (hp126 N) (iS (iS S 5) 57) 11 [some (.ref 3), some (.ref 4), none, none] [.ref 125]
  refine tf_go hx ftL_law 1 [] 12 [some (.ref 3), some (.ref 4), none, none] [.ref 125, .ref 125] (iS (iS S 5) 57) rfl ⟨by decide, by decide, rfl⟩ trivial ?_
  have hF : tf_Fn mX11_init 1 4 791 (hp126 N) (iS (iS S 5) 57) [.ref 125] (tf_GG N) (tf_S1 S) none := (by have h := m_init (G := (hp126 N)) (S := (iS (iS S 5) 57)) (o := 125) (by decide) (show 125 < 126 by decide) rfl; rw [show tf_new (iS (iS S 5) 57) (hp126 N).length = (iS (iS S 5) 57) from tf_new_id (n := 126) (fun k => (by rw [iS_fr (by omega), iS_fr (by omega)]; exact hz 126 (by decide) k)), show tf_new (iS (iS S 5) 57) ((hp126 N).length + 1) = (iS (iS S 5) 57) from tf_new_id (n := 127) (fun k => (by rw [iS_fr (by omega), iS_fr (by omega)]; exact hz 127 (by decide) k)), show tf_new (iS (iS S 5) 57) ((hp126 N).length + 2) = (iS (iS S 5) 57) from tf_new_id (n := 128) (fun k => (by rw [iS_fr (by omega), iS_fr (by omega)]; exact hz 128 (by decide) k)), show tf_new (iS (iS S 5) 57) ((hp126 N).length + 3) = (iS (iS S 5) 57) from tf_new_id (n := 129) (fun k => (by rw [iS_fr (by omega), iS_fr (by omega)]; exact hz 129 (by decide) k))] at h; exact h)
  refine tf_kI hx ftL_law (As := []) (rest := [.ref 125]) hF rfl lL_12 rfl rfl ⟨by decide, by decide, by decide, rfl⟩ (tf_vs_r (show 3 < 126 by decide) (tf_vs_r (show 4 < 126 by decide) tf_vs_0)) (tf_vs_r (show 125 < 126 by decide) tf_vs_0) ?_
  clear hF
  show tf_K x 126 2153 (tf_GG N) (tf_S1 S) 15 [some (.ref 3), some (.ref 4), none, none] [.ref 125]
  refine tf_go hx ftL_law 3 [] 18 [some (.ref 3), some (.ref 4), some (.ref 125), some (.int 0)] [] (tf_S1 S) rfl ⟨by decide, by decide, rfl⟩ trivial ?_
  exact tf_wid (by decide) (by decide) (law_loop (z := z) hx hN hEnd (N + 1) 0 (tf_S1 S) tf_A0 (by omega) (by omega) ok_0 (cs_0 hz h1) (ms_0 hz) (fun j => by rw [S1_fr (by omega) (by omega)]; exact h3 j))

