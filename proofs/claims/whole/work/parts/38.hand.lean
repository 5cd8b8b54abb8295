/-- a hand's shape -/
def tf_hn (G : tf_G) (o : Nat) : Prop := tf_tg G o = 1 ∧ (tf_rf G o 0 ≠ 0 ∧ tf_tg G (tf_rf G o 0) = 9 ∧ tf_ln G (tf_rf G o 0) = 6)

def fX1 : tf_F := [(3, 102, 0), (9, 1, 0), (15, 100, 2)]
set_option maxRecDepth 100000 in
theorem okfX1 : tf_okF RX1 fX1 := by unfold tf_okF; decide +kernel

def tX1_changeLaw : tf_T := [(0, .iload_n 1, 1, 0, 0),
  (1, .ifCond .lt 9, 4, 10, 0),
  (4, .iload_n 1, 5, 0, 0),
  (5, .bipush 6, 7, 0, 6),
  (7, .if_icmp .lt 6, 10, 13, 0),
  (10, .bipush (-9), 12, 0, (-9)),
  (12, .ireturn, 13, 0, 0),
  (13, .aload_n 0, 14, 0, 0),
  (14, .getfield 9, 17, 0, 0),
  (17, .iload_n 1, 18, 0, 0),
  (18, .iaload, 19, 0, 0),
  (19, .istore_n 3, 20, 0, 0),
  (20, .aload_n 0, 21, 0, 0),
  (21, .getfield 9, 24, 0, 0),
  (24, .iload_n 1, 25, 0, 0),
  (25, .iload_n 2, 26, 0, 0),
  (26, .iastore, 27, 0, 0),
  (27, .iload_n 3, 28, 0, 0),
  (28, .ireturn, 29, 0, 0)]
set_option maxRecDepth 100000 in
theorem okX1_changeLaw : tf_okT cX1_changeLaw tX1_changeLaw := by unfold tf_okT; decide +kernel
theorem ftX1_changeLaw : 1 ≤ 1 ∧ tf_okF RX1 fX1 ∧ tf_okT cX1_changeLaw tX1_changeLaw := ⟨by decide, okfX1, okX1_changeLaw⟩
def mX1_changeLaw : tf_M := (yX1_changeLaw, cX1_changeLaw, 4, (some .int))

def tX1_init : tf_T := [(0, .aload_n 0, 1, 0, 0),
  (1, .invokespecial 3, 4, 0, 0),
  (4, .aload_n 0, 5, 0, 0),
  (5, .bipush 6, 7, 0, 6),
  (7, .newarray .int, 9, 0, 0),
  (9, .putfield 9, 12, 0, 0),
  (12, .iconst 0, 13, 0, 0),
  (13, .istore_n 1, 14, 0, 0),
  (14, .iload_n 1, 15, 0, 0),
  (15, .bipush 6, 17, 0, 6),
  (17, .if_icmp .ge 28, 20, 45, 0),
  (20, .iload_n 1, 21, 0, 0),
  (21, .getstatic 15, 24, 0, 0),
  (24, .arraylength, 25, 0, 0),
  (25, .if_icmp .ge 20, 28, 45, 0),
  (28, .aload_n 0, 29, 0, 0),
  (29, .getfield 9, 32, 0, 0),
  (32, .iload_n 1, 33, 0, 0),
  (33, .getstatic 15, 36, 0, 0),
  (36, .iload_n 1, 37, 0, 0),
  (37, .iaload, 38, 0, 0),
  (38, .iastore, 39, 0, 0),
  (39, .iinc 1 1, 42, 0, 1),
  (42, .goto (-28), 45, 14, 0),
  (45, .return_, 46, 0, 0)]
set_option maxRecDepth 100000 in
theorem okX1_init : tf_okT cX1_init tX1_init := by unfold tf_okT; decide +kernel
theorem ftX1_init : 1 ≤ 1 ∧ tf_okF RX1 fX1 ∧ tf_okT cX1_init tX1_init := ⟨by decide, okfX1, okX1_init⟩
def mX1_init : tf_M := (yX1_init, cX1_init, 2, none)

set_option maxHeartbeats 1000000 in
theorem h_changeLaw {G : tf_G} {S : tf_Sg} {o l : Nat} (v : Int32) (hb : tf_hn G o) (hl : l < 6) : tf_Fn mX1_changeLaw 1 0 0 G S [.ref o, .int (nI l), .int v] G (tf_set S (tf_rf G o 0) l v) (some (.int (S (tf_rf G o 0) l))) := by
  obtain ⟨b1, r0, t0, n0⟩ := id hb
  refine tf_Fn_of (own := RX1) false ⟨by decide, rfl, by decide⟩ (Nat.le_of_ble_eq_true rfl) trivial (fun x hx hR => ?_)
  show tf_K x 0 0 G S 0 [some (.ref o), some (.int (nI l)), some (.int v), none] []
  have c1 : ¬ nI l < 0 := tf_ltF (a := l) (b := 0) rfl rfl (by omega) (by omega) (by omega)
  refine tf_go hx ftX1_changeLaw 2 [false] 4 [some (.ref o), some (.int (nI l)), some (.int v), none] [] S rfl ⟨by decide, by decide, rfl⟩ ⟨trivial, (tf_ltF (a := l) (b := 0) rfl (rfl : (0 : Int32) = nI 0) (by omega) (by omega) (by omega))⟩ ?_
  refine tf_go hx ftX1_changeLaw 2 [] 7 [some (.ref o), some (.int (nI l)), some (.int v), none] [.int 6, .int (nI l)] S rfl ⟨by decide, by decide, rfl⟩ trivial ?_
  refine tf_go hx ftX1_changeLaw 1 [true] 13 [some (.ref o), some (.int (nI l)), some (.int v), none] [] S rfl ⟨by decide, by decide, rfl⟩ ⟨trivial, (tf_ltT (a := l) (b := 6) rfl (rfl : (6 : Int32) = nI 6) (by omega) (by omega) (by omega))⟩ ?_
  refine tf_go hx ftX1_changeLaw 5 [] 20 [some (.ref o), some (.int (nI l)), some (.int v), some (.int (S (tf_rf G o 0) (Int32.toNatClampNeg (nI l))))] [] S rfl ⟨by decide, by decide, rfl⟩ ⟨⟨trivial, ⟨by first | assumption | rfl | decide | omega, by first | assumption | rfl | decide | omega⟩⟩, ⟨Or.inl (by first | assumption | rfl | decide | omega), by first | assumption | exact tf_in (n := l) rfl (by first | assumption | rfl) (by omega) (by decide)⟩⟩ ?_
  refine tf_go hx ftX1_changeLaw 4 [] 26 [some (.ref o), some (.int (nI l)), some (.int v), some (.int (S (tf_rf G o 0) (Int32.toNatClampNeg (nI l))))] [.int v, .int (nI l), .ref (tf_rf G o 0)] S rfl ⟨by decide, by decide, rfl⟩ ⟨trivial, ⟨by first | assumption | rfl | decide | omega, by first | assumption | rfl | decide | omega⟩⟩ ?_
  refine tf_go hx ftX1_changeLaw 2 [] 28 [some (.ref o), some (.int (nI l)), some (.int v), some (.int (S (tf_rf G o 0) (Int32.toNatClampNeg (nI l))))] [.int (S (tf_rf G o 0) (Int32.toNatClampNeg (nI l)))] (tf_set S (tf_rf G o 0) (Int32.toNatClampNeg (nI l)) v) rfl ⟨by decide, by decide, rfl⟩ ⟨trivial, ⟨by first | assumption | rfl | decide | omega, by first | assumption | exact tf_in (n := l) rfl (by first | assumption | rfl) (by omega) (by decide)⟩⟩ ?_
  rw [show Int32.toNatClampNeg (nI l) = l from tf_cln rfl (by omega)]
  exact tf_ret ftX1_changeLaw hR rfl ⟨by decide, by decide⟩ rfl rfl rfl

set_option maxHeartbeats 1000000 in
theorem h_init {G : tf_G} {S : tf_Sg} {o : Nat} (ho : 4 ≤ o) (hl : o < G.length) (he : tf_e G o = (1, 0, [0])) (h2 : ∀ j, S 2 j = nI (tf_l0 j)) (h2n : tf_ln G 2 = 6) (h2t : tf_tg G 2 = 14) : tf_Fn mX1_init 1 1 6 G S [.ref o] (tf_al G o 0 (9, 6, [])) (tf_rw (tf_new S G.length) G.length (tf_ct tf_l0 6)) none := by
  refine tf_Fn_of (own := RX1) true ⟨by decide, rfl, by decide⟩ (Nat.le_of_ble_eq_true rfl) trivial (fun x hx hR => ?_)
  show tf_K x 0 0 G S 0 [some (.ref o), none] []
  have l1 : ((tf_al G o 0 (9, 6, []))).length = G.length + 1 := tf_al_len
  have e1 : tf_e (tf_al G o 0 (9, 6, [])) o = (1, 0, [G.length]) := by rw [tf_al_o (by omega), he]; rfl
  refine tf_go hx ftX1_init 4 [] 7 [some (.ref o), none] [.int 6, .ref o] S rfl ⟨by decide, by decide, rfl⟩ trivial ?_
  refine tf_knewi hx ftX1_init 6 rfl ⟨by decide, rfl, by decide⟩ ⟨by decide, by decide⟩ (tf_vs_r (by omega) tf_vs_0) (tf_vs_r (by omega) tf_vs_0) ?_
  refine tf_kputr hx ftX1_init rfl rfl ⟨by decide, by decide, rfl⟩ (by unfold tf_tg; rw [tf_e_app (by omega), he]) (by rw [tf_e_app (by omega), he]; show 0 < 1; decide) ⟨by omega, by rw [List.length_append]; exact Nat.lt_succ_self _⟩ ?_
  show tf_K x (0 + 1) (0 + 6) (tf_al G o 0 (9, 6, [])) (tf_new S G.length) 12 [some (.ref o), none] []
  refine tf_go hx ftX1_init 2 [] 14 [some (.ref o), some (.int 0)] [] (tf_new S G.length) rfl ⟨by decide, by decide, rfl⟩ trivial ?_
  have q0 : tf_rf (tf_al G o 0 (9, 6, [])) o 0 = G.length := by unfold tf_rf; rw [e1]; rfl
  have f0 : tf_e (tf_al G o 0 (9, 6, [])) G.length = (9, 6, []) := tf_al_n (by omega) rfl
  have bt : tf_tg (tf_al G o 0 (9, 6, [])) o = 1 := by unfold tf_tg; rw [e1]
  have t0 : tf_tg (tf_al G o 0 (9, 6, [])) (tf_rf (tf_al G o 0 (9, 6, [])) o 0) = 9 := by rw [q0]; unfold tf_tg; rw [f0]
  have n0 : tf_ln (tf_al G o 0 (9, 6, [])) (tf_rf (tf_al G o 0 (9, 6, [])) o 0) = 6 := by rw [q0]; unfold tf_ln; rw [f0]
  have n2 : tf_ln (tf_al G o 0 (9, 6, [])) 2 = 6 := by unfold tf_ln; rw [tf_al_i (by omega) (by omega) (by omega)]; exact h2n
  have t2 : tf_tg (tf_al G o 0 (9, 6, [])) 2 = 14 := by unfold tf_tg; rw [tf_al_i (by omega) (by omega) (by omega)]; exact h2t
  have hid : (tf_rw (tf_new S G.length) (tf_rf (tf_al G o 0 (9, 6, [])) o 0) (tf_ct tf_l0 0)) = (tf_new S G.length) := by rw [tf_ct_0, q0]; exact tf_rw_0 (fun k => if_pos rfl)
  have loop : ∀ (m k : Nat), k + m = 6 → tf_K x (0 + 1) (0 + 6) (tf_al G o 0 (9, 6, [])) (tf_rw (tf_new S G.length) (tf_rf (tf_al G o 0 (9, 6, [])) o 0) (tf_ct tf_l0 k)) 14 [some (.ref o), some (.int (nI k))] [] := by
    intro m
    induction m with
    | zero =>
      intro k hk
      refine tf_go hx ftX1_init 2 [] 17 [some (.ref o), some (.int (nI k))] [.int 6, .int (nI k)] (tf_rw (tf_new S G.length) (tf_rf (tf_al G o 0 (9, 6, [])) o 0) (tf_ct tf_l0 k)) rfl ⟨by decide, by decide, rfl⟩ trivial ?_
      refine tf_go hx ftX1_init 1 [true] 45 [some (.ref o), some (.int (nI k))] [] (tf_rw (tf_new S G.length) (tf_rf (tf_al G o 0 (9, 6, [])) o 0) (tf_ct tf_l0 k)) rfl ⟨by decide, by decide, rfl⟩ ⟨trivial, (tf_leT (a := 6) (b := k) (rfl : (6 : Int32) = nI 6) rfl (by omega) (by omega) (by omega))⟩ ?_
      exact tf_ret ftX1_init hR rfl ⟨by decide, by decide⟩ rfl (by rw [show k = 6 by omega, q0]) rfl
    | succ m ih =>
      intro k hk
      refine tf_go hx ftX1_init 2 [] 17 [some (.ref o), some (.int (nI k))] [.int 6, .int (nI k)] (tf_rw (tf_new S G.length) (tf_rf (tf_al G o 0 (9, 6, [])) o 0) (tf_ct tf_l0 k)) rfl ⟨by decide, by decide, rfl⟩ trivial ?_
      refine tf_go hx ftX1_init 1 [false] 20 [some (.ref o), some (.int (nI k))] [] (tf_rw (tf_new S G.length) (tf_rf (tf_al G o 0 (9, 6, [])) o 0) (tf_ct tf_l0 k)) rfl ⟨by decide, by decide, rfl⟩ ⟨trivial, (tf_leF (a := 6) (b := k) (rfl : (6 : Int32) = nI 6) rfl (by omega) (by omega) (by omega))⟩ ?_
      refine tf_go hx ftX1_init 3 [] 25 [some (.ref o), some (.int (nI k))] [.int (nI (tf_ln (tf_al G o 0 (9, 6, [])) 2)), .int (nI k)] (tf_rw (tf_new S G.length) (tf_rf (tf_al G o 0 (9, 6, [])) o 0) (tf_ct tf_l0 k)) rfl ⟨by decide, by decide, rfl⟩ ⟨trivial, (Or.inr (by first | assumption | rfl | decide | omega))⟩ ?_
      rw [show tf_ln (tf_al G o 0 (9, 6, [])) 2 = 6 from n2]
      refine tf_go hx ftX1_init 1 [false] 28 [some (.ref o), some (.int (nI k))] [] (tf_rw (tf_new S G.length) (tf_rf (tf_al G o 0 (9, 6, [])) o 0) (tf_ct tf_l0 k)) rfl ⟨by decide, by decide, rfl⟩ ⟨trivial, (tf_leF (a := 6) (b := k) rfl rfl (by omega) (by omega) (by omega))⟩ ?_
      refine tf_go hx ftX1_init 6 [] 38 [some (.ref o), some (.int (nI k))] [.int ((tf_rw (tf_new S G.length) (tf_rf (tf_al G o 0 (9, 6, [])) o 0) (tf_ct tf_l0 k)) 2 (Int32.toNatClampNeg (nI k))), .int (nI k), .ref (tf_rf (tf_al G o 0 (9, 6, [])) o 0)] (tf_rw (tf_new S G.length) (tf_rf (tf_al G o 0 (9, 6, [])) o 0) (tf_ct tf_l0 k)) rfl ⟨by decide, by decide, rfl⟩ ⟨⟨trivial, ⟨by first | assumption | rfl | decide | omega, by first | assumption | rfl | decide | omega⟩⟩, ⟨Or.inr (by first | assumption | rfl | decide | omega), by first | assumption | exact tf_in (n := k) rfl (by first | assumption | rfl) (by omega) (by decide)⟩⟩ ?_
      have v2 : (tf_rw (tf_new S G.length) (tf_rf (tf_al G o 0 (9, 6, [])) o 0) (tf_ct tf_l0 k)) 2 (Int32.toNatClampNeg (nI k)) = nI (tf_l0 k) := by rw [tf_cl_nI (by omega), tf_rw_n (by rw [q0]; omega)]; show (if 2 = G.length then (0 : Int32) else S 2 k) = _; rw [if_neg (by omega)]; exact h2 k
      rw [show ((tf_rw (tf_new S G.length) (tf_rf (tf_al G o 0 (9, 6, [])) o 0) (tf_ct tf_l0 k)) 2 (Int32.toNatClampNeg (nI k))) = nI (tf_l0 k) from v2]
      refine tf_go hx ftX1_init 1 [] 39 [some (.ref o), some (.int (nI k))] [] (tf_set (tf_rw (tf_new S G.length) (tf_rf (tf_al G o 0 (9, 6, [])) o 0) (tf_ct tf_l0 k)) (tf_rf (tf_al G o 0 (9, 6, [])) o 0) (Int32.toNatClampNeg (nI k)) (nI (tf_l0 k))) rfl ⟨by decide, by decide, rfl⟩ ⟨trivial, ⟨by first | assumption | rfl | decide | omega, by first | assumption | exact tf_in (n := k) rfl (by first | assumption | rfl) (by omega) (by decide)⟩⟩ ?_
      rw [show Int32.toNatClampNeg (nI k) = k from tf_cln rfl (by omega)]
      rw [tf_rw_u2, tf_ct_s]
      refine tf_go hx ftX1_init 2 [] 14 [some (.ref o), some (.int ((nI k) + 1))] [] (tf_rw (tf_new S G.length) (tf_rf (tf_al G o 0 (9, 6, [])) o 0) (tf_ct tf_l0 (k + 1))) rfl ⟨by decide, by decide, rfl⟩ trivial ?_
      rw [show ((nI k) + 1) = nI (k + 1) from (tf_add (a := k) (b := 1) rfl (rfl : (1 : Int32) = nI 1))]
      exact ih (k + 1) (by omega)
  have h0 := loop 6 0 (by omega)
  rw [hid] at h0
  exact h0

