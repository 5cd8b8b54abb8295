/-! a Series that holds n numbers -/
def tf_sV (G : tf_G) (S : tf_Sg) (o cap n : Nat) (V : Nat → Int32) : Prop := tf_se G o cap ∧ S o 1 = nI n ∧ n ≤ cap ∧ ∀ j, j < n → S (tf_rf G o 0) j = V j
theorem tf_sV_le {G : tf_G} {S : tf_Sg} {o cap n : Nat} {V : Nat → Int32} (h : tf_sV G S o cap n V) : n ≤ 48 := Nat.le_trans h.2.2.1 h.1.2.2.2.2
theorem tf_sV_fr {G : tf_G} {S S' : tf_Sg} {o cap n : Nat} {V : Nat → Int32} (h : tf_sV G S o cap n V) (h1 : S' o = S o) (h2 : S' (tf_rf G o 0) = S (tf_rf G o 0)) : tf_sV G S' o cap n V := by
  unfold tf_sV
  rw [h1, h2]
  exact h
theorem v_size {G : tf_G} {S : tf_Sg} {o cap n : Nat} {V : Nat → Int32} (h : tf_sV G S o cap n V) : tf_Fn mX5_size 1 0 0 G S [.ref o] G S (some (.int (nI n))) := by
  have h2 := c_size (G := G) (S := S) h.1.1
  rw [h.2.1] at h2
  exact h2
theorem v_at {G : tf_G} {S : tf_Sg} {o cap n : Nat} {V : Nat → Int32} (h : tf_sV G S o cap n V) {i : Nat} (hi : i < n) : tf_Fn mX5_at 1 0 0 G S [.ref o, .int (nI i)] G S (some (.int (V i))) := by
  have h2 := c_at (nI i) h.1 h.2.1 h.2.2.1
  rw [tf_atv_in h.2.1 (by have := tf_sV_le h; omega) hi, h.2.2.2 i hi] at h2
  exact h2
theorem v_out {G : tf_G} {S : tf_Sg} {o cap n : Nat} {V : Nat → Int32} (h : tf_sV G S o cap n V) {i : Int32} (hi : i < 0 ∨ nI n ≤ i) : tf_Fn mX5_at 1 0 0 G S [.ref o, .int i] G S (some (.int (-9))) := by
  have h2 := c_at i h.1 h.2.1 h.2.2.1
  rw [tf_atv_out h.2.1 hi] at h2
  exact h2
theorem v_outn {G : tf_G} {S : tf_Sg} {o cap n : Nat} {V : Nat → Int32} (h : tf_sV G S o cap n V) {i : Nat} (hi : n ≤ i) (hb : i < 2147483648) : tf_Fn mX5_at 1 0 0 G S [.ref o, .int (nI i)] G S (some (.int (-9))) := v_out h (Or.inr (nI_le hi hb))
theorem v_atn {G : tf_G} {S : tf_Sg} {o cap n : Nat} {V : Nat → Int32} (h : tf_sV G S o cap n V) {i : Nat} (hb : i < 2147483648) : tf_Fn mX5_at 1 0 0 G S [.ref o, .int (nI i)] G S (some (.int (if i < n then V i else (-9)))) := by
  by_cases q : i < n
  · rw [if_pos q]; exact v_at h q
  · rw [if_neg q]; exact v_outn h (by omega) hb
theorem v_ati {G : tf_G} {S : tf_Sg} {o cap n : Nat} {V : Nat → Int32} (h : tf_sV G S o cap n V) (i : Int32) : tf_Fn mX5_at 1 0 0 G S [.ref o, .int i] G S (some (.int (if ¬ i < 0 ∧ ¬ nI n ≤ i then V i.toNatClampNeg else (-9)))) := by
  by_cases q : ¬ i < 0 ∧ ¬ nI n ≤ i
  · rw [if_pos q]
    obtain ⟨j, hj, rfl⟩ := nI_of q.1
    rw [tf_cl_nI hj]
    exact v_at h (Nat.not_le.mp fun z => q.2 (nI_le z hj))
  · rw [if_neg q]
    refine v_out h ?_
    by_cases z : i < 0
    · exact Or.inl z
    · exact Or.inr (Classical.not_not.mp fun w => q ⟨z, w⟩)
/-- the number ahead of a place -/
theorem v_prev {G : tf_G} {S : tf_Sg} {o cap n : Nat} {V : Nat → Int32} (h : tf_sV G S o cap n V) {k : Nat} (hk : k ≤ n) : tf_Fn mX5_at 1 0 0 G S [.ref o, .int (nI k - 1)] G S (some (.int (if k = 0 then (-9) else V (k - 1)))) := by
  by_cases q : k = 0
  · rw [if_pos q, q]
    exact v_out h (Or.inl (by decide))
  · rw [if_neg q, show nI k - 1 = nI (k - 1) from pk_sub (a := k) (b := 1) (by omega)]
    exact v_at h (by omega)
/-- a number more -/
def tf_ap (S : tf_Sg) (o a n : Nat) (v : Int32) : tf_Sg := tf_set (tf_set S a n v) o 1 (nI (n + 1))
theorem v_add {G : tf_G} {S : tf_Sg} {o cap n : Nat} {V : Nat → Int32} (h : tf_sV G S o cap n V) (v : Int32) (hl : n < cap) : tf_Fn mX5_add 1 0 0 G S [.ref o, .int v] G (tf_ap S o (tf_rf G o 0) n v) none := c_add v h.1 h.2.1 hl
theorem tf_ap_V {G : tf_G} {S : tf_Sg} {o cap n : Nat} {V : Nat → Int32} {v : Int32} (h : tf_sV G S o cap n V) (hl : n < cap) : tf_sV G (tf_ap S o (tf_rf G o 0) n v) o cap (n + 1) (fun j => if j = n then v else V j) := by
  have hne := tf_se_ne h.1
  refine ⟨h.1, ?_, by omega, fun j hj => ?_⟩
  · unfold tf_ap; rw [tf_set_s]
  · unfold tf_ap
    rw [tf_set_n hne]
    show (if tf_rf G o 0 = tf_rf G o 0 ∧ j = n then v else _) = if j = n then v else V j
    by_cases q : j = n
    · rw [if_pos ⟨rfl, q⟩, if_pos q]
    · rw [if_neg (fun z => q z.2), if_neg q]
      exact h.2.2.2 j (by omega)
theorem tf_sV_cl {G : tf_G} {S : tf_Sg} {o cap : Nat} {V : Nat → Int32} (h : tf_se G o cap) : tf_sV G (tf_set S o 1 0) o cap 0 V := ⟨h, tf_set_s, Nat.zero_le _, fun j hj => absurd hj (Nat.not_lt_zero j)⟩

def tX4_boardFault : tf_T := [(0, .iconst 0, 1, 0, 0),
  (1, .istore_n 1, 2, 0, 0),
  (2, .iconst 0, 3, 0, 0),
  (3, .istore_n 2, 4, 0, 0),
  (4, .iload_n 2, 5, 0, 0),
  (5, .bipush 32, 7, 0, 32),
  (7, .if_icmp .ge 72, 10, 79, 0),
  (10, .aload_n 0, 11, 0, 0),
  (11, .iload_n 2, 12, 0, 0),
  (12, .invokevirtual 9, 15, 0, 0),
  (15, .istore_n 3, 16, 0, 0),
  (16, .iload_n 2, 17, 0, 0),
  (17, .bipush 11, 19, 0, 11),
  (19, .irem, 20, 0, 0),
  (20, .bipush 10, 22, 0, 10),
  (22, .if_icmp .ne 11, 25, 33, 0),
  (25, .iload_n 3, 26, 0, 0),
  (26, .bipush 47, 28, 0, 47),
  (28, .if_icmp .eq 45, 31, 73, 0),
  (31, .iload_n 2, 32, 0, 0),
  (32, .ireturn, 33, 0, 0),
  (33, .iload_n 3, 34, 0, 0),
  (34, .invokestatic 15, 37, 0, 0),
  (37, .ifCond .eq 28, 40, 65, 0),
  (40, .iconst 1, 41, 0, 1),
  (41, .iload_n 3, 42, 0, 0),
  (42, .bipush 97, 44, 0, 97),
  (44, .isub, 45, 0, 0),
  (45, .ishl, 46, 0, 0),
  (46, .istore 4, 48, 0, 0),
  (48, .iload_n 1, 49, 0, 0),
  (49, .iload 4, 51, 0, 0),
  (51, .iand, 52, 0, 0),
  (52, .ifCond .eq 5, 55, 57, 0),
  (55, .iload_n 2, 56, 0, 0),
  (56, .ireturn, 57, 0, 0),
  (57, .iload_n 1, 58, 0, 0),
  (58, .iload 4, 60, 0, 0),
  (60, .ior, 61, 0, 0),
  (61, .istore_n 1, 62, 0, 0),
  (62, .goto 11, 65, 73, 0),
  (65, .iload_n 3, 66, 0, 0),
  (66, .bipush 46, 68, 0, 46),
  (68, .if_icmp .eq 5, 71, 73, 0),
  (71, .iload_n 2, 72, 0, 0),
  (72, .ireturn, 73, 0, 0),
  (73, .iinc 2 1, 76, 0, 1),
  (76, .goto (-72), 79, 4, 0),
  (79, .aload_n 0, 80, 0, 0),
  (80, .invokevirtual 21, 83, 0, 0),
  (83, .bipush 32, 85, 0, 32),
  (85, .if_icmp .le 8, 88, 93, 0),
  (88, .bipush 32, 90, 0, 32),
  (90, .goto 5, 93, 95, 0),
  (93, .bipush (-9), 95, 0, (-9)),
  (95, .ireturn, 96, 0, 0)]
set_option maxRecDepth 100000 in
theorem okX4_boardFault : tf_okT cX4_boardFault tX4_boardFault := by unfold tf_okT; decide +kernel
theorem ftX4_boardFault : 1 ≤ 2 ∧ tf_okF RX4 fX4 ∧ tf_okT cX4_boardFault tX4_boardFault := ⟨by decide, okfX4, okX4_boardFault⟩
def mX4_boardFault : tf_M := (yX4_boardFault, cX4_boardFault, 5, (some .int))

def tX4_textFault : tf_T := [(0, .iconst 0, 1, 0, 0),
  (1, .istore_n 2, 2, 0, 0),
  (2, .iload_n 2, 3, 0, 0),
  (3, .aload_n 0, 4, 0, 0),
  (4, .invokevirtual 21, 7, 0, 0),
  (7, .if_icmp .ge 34, 10, 41, 0),
  (10, .aload_n 0, 11, 0, 0),
  (11, .iload_n 2, 12, 0, 0),
  (12, .invokevirtual 9, 15, 0, 0),
  (15, .istore_n 3, 16, 0, 0),
  (16, .iload_n 3, 17, 0, 0),
  (17, .invokestatic 15, 20, 0, 0),
  (20, .ifCond .ne 15, 23, 35, 0),
  (23, .iload_n 1, 24, 0, 0),
  (24, .ifCond .eq 9, 27, 33, 0),
  (27, .iload_n 3, 28, 0, 0),
  (28, .bipush 60, 30, 0, 60),
  (30, .if_icmp .eq 5, 33, 35, 0),
  (33, .iload_n 2, 34, 0, 0),
  (34, .ireturn, 35, 0, 0),
  (35, .iinc 2 1, 38, 0, 1),
  (38, .goto (-36), 41, 2, 0),
  (41, .bipush (-9), 43, 0, (-9)),
  (43, .ireturn, 44, 0, 0)]
set_option maxRecDepth 100000 in
theorem okX4_textFault : tf_okT cX4_textFault tX4_textFault := by unfold tf_okT; decide +kernel
theorem ftX4_textFault : 1 ≤ 2 ∧ tf_okF RX4 fX4 ∧ tf_okT cX4_textFault tX4_textFault := ⟨by decide, okfX4, okX4_textFault⟩
def mX4_textFault : tf_M := (yX4_textFault, cX4_textFault, 4, (some .int))

def tX4_signsInto : tf_T := [(0, .aload_n 0, 1, 0, 0),
  (1, .invokevirtual 25, 4, 0, 0),
  (4, .iconst 0, 5, 0, 0),
  (5, .istore_n 2, 6, 0, 0),
  (6, .iload_n 2, 7, 0, 0),
  (7, .aload_n 1, 8, 0, 0),
  (8, .invokevirtual 21, 11, 0, 0),
  (11, .if_icmp .ge 35, 14, 46, 0),
  (14, .aload_n 1, 15, 0, 0),
  (15, .iload_n 2, 16, 0, 0),
  (16, .invokevirtual 9, 19, 0, 0),
  (19, .istore_n 3, 20, 0, 0),
  (20, .aload_n 0, 21, 0, 0),
  (21, .iload_n 3, 22, 0, 0),
  (22, .invokestatic 15, 25, 0, 0),
  (25, .ifCond .eq 10, 28, 35, 0),
  (28, .iload_n 3, 29, 0, 0),
  (29, .bipush 97, 31, 0, 97),
  (31, .isub, 32, 0, 0),
  (32, .goto 5, 35, 37, 0),
  (35, .bipush 26, 37, 0, 26),
  (37, .invokevirtual 28, 40, 0, 0),
  (40, .iinc 2 1, 43, 0, 1),
  (43, .goto (-37), 46, 6, 0),
  (46, .aload_n 0, 47, 0, 0),
  (47, .invokevirtual 21, 50, 0, 0),
  (50, .ireturn, 51, 0, 0)]
set_option maxRecDepth 100000 in
theorem okX4_signsInto : tf_okT cX4_signsInto tX4_signsInto := by unfold tf_okT; decide +kernel
theorem ftX4_signsInto : 1 ≤ 2 ∧ tf_okF RX4 fX4 ∧ tf_okT cX4_signsInto tX4_signsInto := ⟨by decide, okfX4, okX4_signsInto⟩
def mX4_signsInto : tf_M := (yX4_signsInto, cX4_signsInto, 4, (some .int))

set_option maxRecDepth 100000 in
theorem lX4_9 : tf_okV RX4 9 1 3 mX5_at := by unfold tf_okV tf_okL; decide +kernel

set_option maxRecDepth 100000 in
theorem lX4_15 : tf_okS RX4 15 1 mX4_isLetter := by unfold tf_okS tf_okL; decide +kernel

set_option maxRecDepth 100000 in
theorem lX4_21 : tf_okV RX4 21 0 3 mX5_size := by unfold tf_okV tf_okL; decide +kernel

set_option maxRecDepth 100000 in
theorem lX4_25 : tf_okV RX4 25 0 3 mX5_clear := by unfold tf_okV tf_okL; decide +kernel

set_option maxRecDepth 100000 in
theorem lX4_28 : tf_okV RX4 28 1 3 mX5_add := by unfold tf_okV tf_okL; decide +kernel

set_option maxHeartbeats 1000000 in
theorem r_textFault {G : tf_G} {S : tf_Sg} {o cap n : Nat} {T : Nat → Nat} (t : Nat) (hV : tf_sV G S o cap n (fun j => nI (T j))) (hT : ∀ j, T j < 256) (ht : t < 2) : tf_Fn mX4_textFault 2 0 0 G S [.ref o, .int (nI t)] G S (some (.int (tf_on n (tf_lf T n t)))) := by
  have h1 := hV.1.1
  refine tf_Fn_of (own := RX4) false ⟨by decide, rfl, by decide⟩ (Nat.le_of_ble_eq_true rfl) trivial (fun x hx hR => ?_)
  show tf_K x 0 0 G S 0 [some (.ref o), some (.int (nI t)), none, none] []
  have n48 := tf_sV_le hV
  refine tf_go hx ftX4_textFault 2 [] 2 [some (.ref o), some (.int (nI t)), some (.int 0), none] [] S rfl ⟨by decide, by decide, rfl⟩ trivial ?_
  have loop : ∀ (m k : Nat), k + m = n → (tf_fst (tf_lb T t) m k = tf_lf T n t) → tf_K x 0 0 G S 2 [some (.ref o), some (.int (nI t)), some (.int (nI k)), none] [] := by
    intro m
    induction m with
    | zero =>
      intro k hk he
      refine tf_go hx ftX4_textFault 2 [] 4 [some (.ref o), some (.int (nI t)), some (.int (nI k)), none] [.ref o, .int (nI k)] S rfl ⟨by decide, by decide, rfl⟩ trivial ?_
      refine tf_cV hx ftX4_textFault (nx := 7) (As := []) (rest := [.int (nI k)]) (st2 := [.int (nI n), .int (nI k)]) (v_size hV) rfl lX4_21 (by first | assumption | rfl | decide) rfl ⟨rfl, by decide, by decide, by decide, rfl, rfl⟩ ?_
      refine tf_go hx ftX4_textFault 2 [true] 43 [some (.ref o), some (.int (nI t)), some (.int (nI k)), none] [.int (-9)] S rfl ⟨by decide, by decide, rfl⟩ ⟨trivial, (tf_leT (a := n) (b := k) rfl rfl (by omega) (by omega) (by omega))⟩ ?_
      exact tf_ret ftX4_textFault hR rfl ⟨by decide, by decide⟩ rfl rfl (by rw [← he, tf_on_n (by rw [tf_fst_0]; omega)]; rfl)
    | succ m ih =>
      intro k hk he
      refine tf_go hx ftX4_textFault 2 [] 4 [some (.ref o), some (.int (nI t)), some (.int (nI k)), none] [.ref o, .int (nI k)] S rfl ⟨by decide, by decide, rfl⟩ trivial ?_
      refine tf_cV hx ftX4_textFault (nx := 7) (As := []) (rest := [.int (nI k)]) (st2 := [.int (nI n), .int (nI k)]) (v_size hV) rfl lX4_21 (by first | assumption | rfl | decide) rfl ⟨rfl, by decide, by decide, by decide, rfl, rfl⟩ ?_
      refine tf_go hx ftX4_textFault 1 [false] 10 [some (.ref o), some (.int (nI t)), some (.int (nI k)), none] [] S rfl ⟨by decide, by decide, rfl⟩ ⟨trivial, (tf_leF (a := n) (b := k) rfl rfl (by omega) (by omega) (by omega))⟩ ?_
      refine tf_go hx ftX4_textFault 2 [] 12 [some (.ref o), some (.int (nI t)), some (.int (nI k)), none] [.int (nI k), .ref o] S rfl ⟨by decide, by decide, rfl⟩ trivial ?_
      refine tf_cV hx ftX4_textFault (nx := 15) (As := [.int (nI k)]) (rest := []) (st2 := [.int (nI (T k))]) (v_at hV (show k < n by omega)) rfl lX4_9 (by first | assumption | rfl | decide) rfl ⟨rfl, by decide, by decide, by decide, rfl, rfl⟩ ?_
      have c3 := hT k
      refine tf_go hx ftX4_textFault 2 [] 17 [some (.ref o), some (.int (nI t)), some (.int (nI k)), some (.int (nI (T k)))] [.int (nI (T k))] S rfl ⟨by decide, by decide, rfl⟩ trivial ?_
      refine tf_cS hx ftX4_textFault (nx := 20) (As := [.int (nI (T k))]) (rest := []) (st2 := [.int (if tf_lt (T k) = true then 1 else 0)]) ((by have h := c_isLetter (G := G) (S := S) (nI (T k)); rw [tf_lt_i c3] at h; exact h)) rfl lX4_15 rfl ⟨rfl, by decide, by decide, by decide, rfl, rfl⟩ ?_
      by_cases e1 : tf_lt (T k) = true
      · rw [if_pos e1]
        refine tf_go hx ftX4_textFault 1 [true] 35 [some (.ref o), some (.int (nI t)), some (.int (nI k)), some (.int (nI (T k)))] [] S rfl ⟨by decide, by decide, rfl⟩ ⟨trivial, (by decide)⟩ ?_
        rw [tf_fst_n (by unfold tf_lb; simp [e1])] at he
        refine tf_go hx ftX4_textFault 2 [] 2 [some (.ref o), some (.int (nI t)), some (.int ((nI k) + 1)), some (.int (nI (T k)))] [] S rfl ⟨by decide, by decide, rfl⟩ trivial ?_
        rw [show ((nI k) + 1) = nI (k + 1) from (tf_add (a := k) (b := 1) rfl (rfl : (1 : Int32) = nI 1))]
        refine tf_fgt [some (.ref o), some (.int (nI t)), some (.int (nI (k + 1))), none] (by simp [tf_lss]) ?_
        exact ih (k + 1) (by omega) he
      · rw [if_neg e1]
        refine tf_go hx ftX4_textFault 1 [false] 23 [some (.ref o), some (.int (nI t)), some (.int (nI k)), some (.int (nI (T k)))] [] S rfl ⟨by decide, by decide, rfl⟩ ⟨trivial, (by decide)⟩ ?_
        refine tf_go hx ftX4_textFault 1 [] 24 [some (.ref o), some (.int (nI t)), some (.int (nI k)), some (.int (nI (T k)))] [.int (nI t)] S rfl ⟨by decide, by decide, rfl⟩ trivial ?_
        by_cases e2 : t = 0
        · refine tf_go hx ftX4_textFault 2 [true] 34 [some (.ref o), some (.int (nI t)), some (.int (nI k)), some (.int (nI (T k)))] [.int (nI k)] S rfl ⟨by decide, by decide, rfl⟩ ⟨trivial, (tf_eqT (a := t) (b := 0) rfl (rfl : (0 : Int32) = nI 0) (by omega))⟩ ?_
          exact tf_ret ftX4_textFault hR rfl ⟨by decide, by decide⟩ rfl rfl (by rw [← he, tf_fst_y (by unfold tf_lb; simp [e1, e2]), tf_on_y (by omega)]; rfl)
        · refine tf_go hx ftX4_textFault 1 [false] 27 [some (.ref o), some (.int (nI t)), some (.int (nI k)), some (.int (nI (T k)))] [] S rfl ⟨by decide, by decide, rfl⟩ ⟨trivial, (tf_eqF (a := t) (b := 0) rfl (rfl : (0 : Int32) = nI 0) (by omega) (by omega) (by omega))⟩ ?_
          refine tf_go hx ftX4_textFault 2 [] 30 [some (.ref o), some (.int (nI t)), some (.int (nI k)), some (.int (nI (T k)))] [.int 60, .int (nI (T k))] S rfl ⟨by decide, by decide, rfl⟩ trivial ?_
          by_cases e3 : T k = 60
          · refine tf_go hx ftX4_textFault 1 [true] 35 [some (.ref o), some (.int (nI t)), some (.int (nI k)), some (.int (nI (T k)))] [] S rfl ⟨by decide, by decide, rfl⟩ ⟨trivial, (tf_eqT (a := (T k)) (b := 60) rfl (rfl : (60 : Int32) = nI 60) (by omega))⟩ ?_
            rw [tf_fst_n (by unfold tf_lb; simp [e2, e3])] at he
            refine tf_go hx ftX4_textFault 2 [] 2 [some (.ref o), some (.int (nI t)), some (.int ((nI k) + 1)), some (.int (nI (T k)))] [] S rfl ⟨by decide, by decide, rfl⟩ trivial ?_
            rw [show ((nI k) + 1) = nI (k + 1) from (tf_add (a := k) (b := 1) rfl (rfl : (1 : Int32) = nI 1))]
            refine tf_fgt [some (.ref o), some (.int (nI t)), some (.int (nI (k + 1))), none] (by simp [tf_lss]) ?_
            exact ih (k + 1) (by omega) he
          · refine tf_go hx ftX4_textFault 2 [false] 34 [some (.ref o), some (.int (nI t)), some (.int (nI k)), some (.int (nI (T k)))] [.int (nI k)] S rfl ⟨by decide, by decide, rfl⟩ ⟨trivial, (tf_eqF (a := (T k)) (b := 60) rfl (rfl : (60 : Int32) = nI 60) (by omega) (by omega) (by omega))⟩ ?_
            exact tf_ret ftX4_textFault hR rfl ⟨by decide, by decide⟩ rfl rfl (by rw [← he, tf_fst_y (by unfold tf_lb; simp [e1, e3]), tf_on_y (by omega)]; rfl)
  have h0 := loop n 0 (by omega) rfl
  exact h0

set_option maxHeartbeats 1000000 in
theorem r_boardFault {G : tf_G} {S : tf_Sg} {o cap n : Nat} {T : Nat → Nat} (hV : tf_sV G S o cap n (fun j => nI (T j))) (hT : ∀ j, T j < 256) : tf_Fn mX4_boardFault 2 0 0 G S [.ref o] G S (some (.int (tf_on 49 (tf_bf T n)))) := by
  have h1 := hV.1.1
  refine tf_Fn_of (own := RX4) false ⟨by decide, rfl, by decide⟩ (Nat.le_of_ble_eq_true rfl) trivial (fun x hx hR => ?_)
  show tf_K x 0 0 G S 0 [some (.ref o), none, none, none, none] []
  have n48 := tf_sV_le hV
  have fe : tf_on 49 (tf_bf T n) = if tf_fst (tf_bb T n) 32 0 < 32 then nI (tf_fst (tf_bb T n) 32 0) else if 32 < n then 32 else (-9) := by
    unfold tf_bf
    by_cases q : tf_fst (tf_bb T n) 32 0 < 32
    · rw [if_pos q, if_pos q, tf_on_y (by omega)]
    · rw [if_neg q, if_neg q]
      by_cases r : 32 < n
      · rw [if_pos r, if_pos r]; rfl
      · rw [if_neg r, if_neg r]; rfl
  rw [fe] at hR
  refine tf_go hx ftX4_boardFault 4 [] 4 [some (.ref o), some (.int 0), some (.int 0), none, none] [] S rfl ⟨by decide, by decide, rfl⟩ trivial ?_
  refine tf_fgt [some (.ref o), some (.int 0), some (.int 0), none, none] (by simp [tf_lss]) ?_
  have loop : ∀ (m k : Nat), k + m = 32 → (tf_fst (tf_bb T n) m k = tf_fst (tf_bb T n) 32 0) → tf_K x 0 0 G S 4 [some (.ref o), some (.int (nI (tf_bs T k))), some (.int (nI k)), none, none] [] := by
    intro m
    induction m with
    | zero =>
      intro k hk he
      refine tf_go hx ftX4_boardFault 2 [] 7 [some (.ref o), some (.int (nI (tf_bs T k))), some (.int (nI k)), none, none] [.int 32, .int (nI k)] S rfl ⟨by decide, by decide, rfl⟩ trivial ?_
      refine tf_go hx ftX4_boardFault 2 [true] 80 [some (.ref o), some (.int (nI (tf_bs T k))), some (.int (nI k)), none, none] [.ref o] S rfl ⟨by decide, by decide, rfl⟩ ⟨trivial, (tf_leT (a := 32) (b := k) (rfl : (32 : Int32) = nI 32) rfl (by omega) (by omega) (by omega))⟩ ?_
      refine tf_cV hx ftX4_boardFault (nx := 83) (As := []) (rest := []) (st2 := [.int (nI n)]) (v_size hV) rfl lX4_21 (by first | assumption | rfl | decide) rfl ⟨rfl, by decide, by decide, by decide, rfl, rfl⟩ ?_
      refine tf_go hx ftX4_boardFault 1 [] 85 [some (.ref o), some (.int (nI (tf_bs T k))), some (.int (nI k)), none, none] [.int 32, .int (nI n)] S rfl ⟨by decide, by decide, rfl⟩ trivial ?_
      by_cases e1 : 32 < n
      · refine tf_go hx ftX4_boardFault 3 [false] 95 [some (.ref o), some (.int (nI (tf_bs T k))), some (.int (nI k)), none, none] [.int 32] S rfl ⟨by decide, by decide, rfl⟩ ⟨trivial, (tf_leF (a := n) (b := 32) rfl (rfl : (32 : Int32) = nI 32) (by omega) (by omega) (by omega))⟩ ?_
        exact tf_ret ftX4_boardFault hR rfl ⟨by decide, by decide⟩ rfl rfl (by rw [← he, tf_fst_0, if_neg (by omega), if_pos e1]; rfl)
      · refine tf_go hx ftX4_boardFault 2 [true] 95 [some (.ref o), some (.int (nI (tf_bs T k))), some (.int (nI k)), none, none] [.int (-9)] S rfl ⟨by decide, by decide, rfl⟩ ⟨trivial, (tf_leT (a := n) (b := 32) rfl (rfl : (32 : Int32) = nI 32) (by omega) (by omega) (by omega))⟩ ?_
        exact tf_ret ftX4_boardFault hR rfl ⟨by decide, by decide⟩ rfl rfl (by rw [← he, tf_fst_0, if_neg (by omega), if_neg e1]; rfl)
    | succ m ih =>
      intro k hk he
      have b26 := tf_bs_le T k
      refine tf_go hx ftX4_boardFault 2 [] 7 [some (.ref o), some (.int (nI (tf_bs T k))), some (.int (nI k)), none, none] [.int 32, .int (nI k)] S rfl ⟨by decide, by decide, rfl⟩ trivial ?_
      refine tf_go hx ftX4_boardFault 1 [false] 10 [some (.ref o), some (.int (nI (tf_bs T k))), some (.int (nI k)), none, none] [] S rfl ⟨by decide, by decide, rfl⟩ ⟨trivial, (tf_leF (a := 32) (b := k) (rfl : (32 : Int32) = nI 32) rfl (by omega) (by omega) (by omega))⟩ ?_
      refine tf_go hx ftX4_boardFault 2 [] 12 [some (.ref o), some (.int (nI (tf_bs T k))), some (.int (nI k)), none, none] [.int (nI k), .ref o] S rfl ⟨by decide, by decide, rfl⟩ trivial ?_
      by_cases e0 : k < n
      · refine tf_cV hx ftX4_boardFault (nx := 15) (As := [.int (nI k)]) (rest := []) (st2 := [.int (nI (T k))]) (v_at hV e0) rfl lX4_9 (by first | assumption | rfl | decide) rfl ⟨rfl, by decide, by decide, by decide, rfl, rfl⟩ ?_
        have c3 := hT k
        refine tf_go hx ftX4_boardFault 1 [] 16 [some (.ref o), some (.int (nI (tf_bs T k))), some (.int (nI k)), some (.int (nI (T k))), none] [] S rfl ⟨by decide, by decide, rfl⟩ trivial ?_
        refine tf_go hx ftX4_boardFault 4 [] 22 [some (.ref o), some (.int (nI (tf_bs T k))), some (.int (nI k)), some (.int (nI (T k))), none] [.int 10, .int ((nI k) - (nI k) / 11 * 11)] S rfl ⟨by decide, by decide, rfl⟩ ⟨trivial, (by decide)⟩ ?_
        rw [show ((nI k) - (nI k) / 11 * 11) = nI (k % 11) from (tf_rem (a := k) (d := 11) rfl (rfl : (11 : Int32) = nI 11) (by omega) (by omega) (by omega))]
        by_cases e1 : k % 11 = 10
        · refine tf_go hx ftX4_boardFault 1 [false] 25 [some (.ref o), some (.int (nI (tf_bs T k))), some (.int (nI k)), some (.int (nI (T k))), none] [] S rfl ⟨by decide, by decide, rfl⟩ ⟨trivial, (tf_neF (a := (k % 11)) (b := 10) rfl (rfl : (10 : Int32) = nI 10) (by omega))⟩ ?_
          refine tf_go hx ftX4_boardFault 2 [] 28 [some (.ref o), some (.int (nI (tf_bs T k))), some (.int (nI k)), some (.int (nI (T k))), none] [.int 47, .int (nI (T k))] S rfl ⟨by decide, by decide, rfl⟩ trivial ?_
          by_cases e2 : T k = 47
          · refine tf_go hx ftX4_boardFault 1 [true] 73 [some (.ref o), some (.int (nI (tf_bs T k))), some (.int (nI k)), some (.int (nI (T k))), none] [] S rfl ⟨by decide, by decide, rfl⟩ ⟨trivial, (tf_eqT (a := (T k)) (b := 47) rfl (rfl : (47 : Int32) = nI 47) (by omega))⟩ ?_
            refine tf_go hx ftX4_boardFault 2 [] 4 [some (.ref o), some (.int (nI (tf_bs T k))), some (.int ((nI k) + 1)), some (.int (nI (T k))), none] [] S rfl ⟨by decide, by decide, rfl⟩ trivial ?_
            rw [show ((nI k) + 1) = nI (k + 1) from (tf_add (a := k) (b := 1) rfl (rfl : (1 : Int32) = nI 1))]
            rw [tf_fst_n (by unfold tf_bb; simp [e1, e2]; omega)] at he
            have bs : tf_bs T (k + 1) = tf_bs T k := by rw [tf_bs_s, if_neg (by omega)]
            refine tf_fgt [some (.ref o), some (.int (nI (tf_bs T k))), some (.int (nI (k + 1))), none, none] (by simp [tf_lss]) ?_
            rw [← bs]
            exact ih (k + 1) (by omega) he
          · refine tf_go hx ftX4_boardFault 2 [false] 32 [some (.ref o), some (.int (nI (tf_bs T k))), some (.int (nI k)), some (.int (nI (T k))), none] [.int (nI k)] S rfl ⟨by decide, by decide, rfl⟩ ⟨trivial, (tf_eqF (a := (T k)) (b := 47) rfl (rfl : (47 : Int32) = nI 47) (by omega) (by omega) (by omega))⟩ ?_
            exact tf_ret ftX4_boardFault hR rfl ⟨by decide, by decide⟩ rfl rfl (by rw [← he, tf_fst_y (by unfold tf_bb; simp [e1, e2]), if_pos (by omega)]; rfl)
        · refine tf_go hx ftX4_boardFault 1 [true] 33 [some (.ref o), some (.int (nI (tf_bs T k))), some (.int (nI k)), some (.int (nI (T k))), none] [] S rfl ⟨by decide, by decide, rfl⟩ ⟨trivial, (tf_eqF (a := (k % 11)) (b := 10) rfl (rfl : (10 : Int32) = nI 10) (by omega) (by omega) (by omega))⟩ ?_
          refine tf_go hx ftX4_boardFault 1 [] 34 [some (.ref o), some (.int (nI (tf_bs T k))), some (.int (nI k)), some (.int (nI (T k))), none] [.int (nI (T k))] S rfl ⟨by decide, by decide, rfl⟩ trivial ?_
          refine tf_cS hx ftX4_boardFault (nx := 37) (As := [.int (nI (T k))]) (rest := []) (st2 := [.int (if tf_lt (T k) = true then 1 else 0)]) ((by have h := c_isLetter (G := G) (S := S) (nI (T k)); rw [tf_lt_i c3] at h; exact h)) rfl lX4_15 rfl ⟨rfl, by decide, by decide, by decide, rfl, rfl⟩ ?_
          by_cases e2 : tf_lt (T k) = true
          · rw [if_pos e2]
            refine tf_go hx ftX4_boardFault 1 [false] 40 [some (.ref o), some (.int (nI (tf_bs T k))), some (.int (nI k)), some (.int (nI (T k))), none] [] S rfl ⟨by decide, by decide, rfl⟩ ⟨trivial, (by decide)⟩ ?_
            obtain ⟨l1, l2⟩ := tf_lt_y e2
            refine tf_go hx ftX4_boardFault 4 [] 45 [some (.ref o), some (.int (nI (tf_bs T k))), some (.int (nI k)), some (.int (nI (T k))), none] [.int ((nI (T k)) - 97), .int 1] S rfl ⟨by decide, by decide, rfl⟩ trivial ?_
            rw [show ((nI (T k)) - 97) = nI ((T k) - 97) from (tf_sub (a := (T k)) (b := 97) rfl (rfl : (97 : Int32) = nI 97) (by omega))]
            refine tf_go hx ftX4_boardFault 1 [] 46 [some (.ref o), some (.int (nI (tf_bs T k))), some (.int (nI k)), some (.int (nI (T k))), none] [.int (1 <<< ((nI ((T k) - 97)) &&& 31))] S rfl ⟨by decide, by decide, rfl⟩ trivial ?_
            rw [tf_shl (show T k - 97 < 26 by omega)]
            refine tf_go hx ftX4_boardFault 1 [] 48 [some (.ref o), some (.int (nI (tf_bs T k))), some (.int (nI k)), some (.int (nI (T k))), some (.int (nI (2 ^ (T k - 97))))] [] S rfl ⟨by decide, by decide, rfl⟩ trivial ?_
            refine tf_go hx ftX4_boardFault 3 [] 52 [some (.ref o), some (.int (nI (tf_bs T k))), some (.int (nI k)), some (.int (nI (T k))), some (.int (nI (2 ^ (T k - 97))))] [.int ((nI (tf_bs T k)) &&& (nI (2 ^ (T k - 97))))] S rfl ⟨by decide, by decide, rfl⟩ trivial ?_
            rw [tf_tst2]
            have pw : 2 ^ (T k - 97) < 2 ^ 26 := Nat.pow_lt_pow_right (by decide) (by omega)
            have pw0 : 0 < 2 ^ (T k - 97) := Nat.two_pow_pos _
            by_cases e3 : (tf_bs T k).testBit (T k - 97) = true
            · rw [if_pos e3]
              generalize 2 ^ (T k - 97) = pp at *
              refine tf_go hx ftX4_boardFault 2 [false] 56 [some (.ref o), some (.int (nI (tf_bs T k))), some (.int (nI k)), some (.int (nI (T k))), some (.int (nI pp))] [.int (nI k)] S rfl ⟨by decide, by decide, rfl⟩ ⟨trivial, (tf_eqF (a := pp) (b := 0) rfl rfl (by omega) (by omega) (by omega))⟩ ?_
              exact tf_ret ftX4_boardFault hR rfl ⟨by decide, by decide⟩ rfl rfl (by rw [← he, tf_fst_y (by unfold tf_bb; simp [e1, e2, e3]), if_pos (by omega)]; rfl)
            · rw [if_neg e3]
              refine tf_go hx ftX4_boardFault 1 [true] 57 [some (.ref o), some (.int (nI (tf_bs T k))), some (.int (nI k)), some (.int (nI (T k))), some (.int (nI (2 ^ (T k - 97))))] [] S rfl ⟨by decide, by decide, rfl⟩ ⟨trivial, rfl⟩ ?_
              refine tf_go hx ftX4_boardFault 2 [] 60 [some (.ref o), some (.int (nI (tf_bs T k))), some (.int (nI k)), some (.int (nI (T k))), some (.int (nI (2 ^ (T k - 97))))] [.int (nI (2 ^ (T k - 97))), .int (nI (tf_bs T k))] S rfl ⟨by decide, by decide, rfl⟩ trivial ?_
              refine tf_go hx ftX4_boardFault 1 [] 61 [some (.ref o), some (.int (nI (tf_bs T k))), some (.int (nI k)), some (.int (nI (T k))), some (.int (nI (2 ^ (T k - 97))))] [.int ((nI (tf_bs T k)) ||| (nI (2 ^ (T k - 97))))] S rfl ⟨by decide, by decide, rfl⟩ trivial ?_
              rw [tf_or]
              refine tf_go hx ftX4_boardFault 1 [] 62 [some (.ref o), some (.int (nI (tf_bs T k ||| 2 ^ (T k - 97)))), some (.int (nI k)), some (.int (nI (T k))), some (.int (nI (2 ^ (T k - 97))))] [] S rfl ⟨by decide, by decide, rfl⟩ trivial ?_
              refine tf_go hx ftX4_boardFault 3 [] 4 [some (.ref o), some (.int (nI (tf_bs T k ||| 2 ^ (T k - 97)))), some (.int ((nI k) + 1)), some (.int (nI (T k))), some (.int (nI (2 ^ (T k - 97))))] [] S rfl ⟨by decide, by decide, rfl⟩ trivial ?_
              rw [show ((nI k) + 1) = nI (k + 1) from (tf_add (a := k) (b := 1) rfl (rfl : (1 : Int32) = nI 1))]
              rw [tf_fst_n (by unfold tf_bb; simp [e1, e2, e3]; omega)] at he
              have bs : tf_bs T (k + 1) = tf_bs T k ||| 2 ^ (T k - 97) := by rw [tf_bs_s, if_pos ⟨e1, e2⟩]
              refine tf_fgt [some (.ref o), some (.int (nI (tf_bs T k ||| 2 ^ (T k - 97)))), some (.int (nI (k + 1))), none, none] (by simp [tf_lss]) ?_
              rw [← bs]
              exact ih (k + 1) (by omega) he
          · rw [if_neg e2]
            refine tf_go hx ftX4_boardFault 1 [true] 65 [some (.ref o), some (.int (nI (tf_bs T k))), some (.int (nI k)), some (.int (nI (T k))), none] [] S rfl ⟨by decide, by decide, rfl⟩ ⟨trivial, (by decide)⟩ ?_
            refine tf_go hx ftX4_boardFault 2 [] 68 [some (.ref o), some (.int (nI (tf_bs T k))), some (.int (nI k)), some (.int (nI (T k))), none] [.int 46, .int (nI (T k))] S rfl ⟨by decide, by decide, rfl⟩ trivial ?_
            by_cases e3 : T k = 46
            · refine tf_go hx ftX4_boardFault 1 [true] 73 [some (.ref o), some (.int (nI (tf_bs T k))), some (.int (nI k)), some (.int (nI (T k))), none] [] S rfl ⟨by decide, by decide, rfl⟩ ⟨trivial, (tf_eqT (a := (T k)) (b := 46) rfl (rfl : (46 : Int32) = nI 46) (by omega))⟩ ?_
              refine tf_go hx ftX4_boardFault 2 [] 4 [some (.ref o), some (.int (nI (tf_bs T k))), some (.int ((nI k) + 1)), some (.int (nI (T k))), none] [] S rfl ⟨by decide, by decide, rfl⟩ trivial ?_
              rw [show ((nI k) + 1) = nI (k + 1) from (tf_add (a := k) (b := 1) rfl (rfl : (1 : Int32) = nI 1))]
              rw [tf_fst_n (by unfold tf_bb; rw [if_neg e1, show tf_lt (T k) = false by simpa using e2]; simp [e3]; omega)] at he
              have bs : tf_bs T (k + 1) = tf_bs T k := by rw [tf_bs_s, if_neg (fun h => e2 h.2)]
              refine tf_fgt [some (.ref o), some (.int (nI (tf_bs T k))), some (.int (nI (k + 1))), none, none] (by simp [tf_lss]) ?_
              rw [← bs]
              exact ih (k + 1) (by omega) he
            · refine tf_go hx ftX4_boardFault 2 [false] 72 [some (.ref o), some (.int (nI (tf_bs T k))), some (.int (nI k)), some (.int (nI (T k))), none] [.int (nI k)] S rfl ⟨by decide, by decide, rfl⟩ ⟨trivial, (tf_eqF (a := (T k)) (b := 46) rfl (rfl : (46 : Int32) = nI 46) (by omega) (by omega) (by omega))⟩ ?_
              exact tf_ret ftX4_boardFault hR rfl ⟨by decide, by decide⟩ rfl rfl (by rw [← he, tf_fst_y (by unfold tf_bb; simp [e1, e2, e3]), if_pos (by omega)]; rfl)
      · refine tf_cV hx ftX4_boardFault (nx := 15) (As := [.int (nI k)]) (rest := []) (st2 := [.int (-9)]) (v_outn hV (show n ≤ k by omega) (by omega)) rfl lX4_9 (by first | assumption | rfl | decide) rfl ⟨rfl, by decide, by decide, by decide, rfl, rfl⟩ ?_
        refine tf_go hx ftX4_boardFault 1 [] 16 [some (.ref o), some (.int (nI (tf_bs T k))), some (.int (nI k)), some (.int (-9)), none] [] S rfl ⟨by decide, by decide, rfl⟩ trivial ?_
        refine tf_go hx ftX4_boardFault 4 [] 22 [some (.ref o), some (.int (nI (tf_bs T k))), some (.int (nI k)), some (.int (-9)), none] [.int 10, .int ((nI k) - (nI k) / 11 * 11)] S rfl ⟨by decide, by decide, rfl⟩ ⟨trivial, (by decide)⟩ ?_
        rw [show ((nI k) - (nI k) / 11 * 11) = nI (k % 11) from (tf_rem (a := k) (d := 11) rfl (rfl : (11 : Int32) = nI 11) (by omega) (by omega) (by omega))]
        by_cases e1 : k % 11 = 10
        · refine tf_go hx ftX4_boardFault 1 [false] 25 [some (.ref o), some (.int (nI (tf_bs T k))), some (.int (nI k)), some (.int (-9)), none] [] S rfl ⟨by decide, by decide, rfl⟩ ⟨trivial, (tf_neF (a := (k % 11)) (b := 10) rfl (rfl : (10 : Int32) = nI 10) (by omega))⟩ ?_
          refine tf_go hx ftX4_boardFault 2 [] 28 [some (.ref o), some (.int (nI (tf_bs T k))), some (.int (nI k)), some (.int (-9)), none] [.int 47, .int (-9)] S rfl ⟨by decide, by decide, rfl⟩ trivial ?_
          refine tf_go hx ftX4_boardFault 2 [false] 32 [some (.ref o), some (.int (nI (tf_bs T k))), some (.int (nI k)), some (.int (-9)), none] [.int (nI k)] S rfl ⟨by decide, by decide, rfl⟩ ⟨trivial, (by decide)⟩ ?_
          exact tf_ret ftX4_boardFault hR rfl ⟨by decide, by decide⟩ rfl rfl (by rw [← he, tf_fst_y (by unfold tf_bb; simp; exact Or.inl (by omega)), if_pos (by omega)]; rfl)
        · refine tf_go hx ftX4_boardFault 1 [true] 33 [some (.ref o), some (.int (nI (tf_bs T k))), some (.int (nI k)), some (.int (-9)), none] [] S rfl ⟨by decide, by decide, rfl⟩ ⟨trivial, (tf_eqF (a := (k % 11)) (b := 10) rfl (rfl : (10 : Int32) = nI 10) (by omega) (by omega) (by omega))⟩ ?_
          refine tf_go hx ftX4_boardFault 1 [] 34 [some (.ref o), some (.int (nI (tf_bs T k))), some (.int (nI k)), some (.int (-9)), none] [.int (-9)] S rfl ⟨by decide, by decide, rfl⟩ trivial ?_
          refine tf_cS hx ftX4_boardFault (nx := 37) (As := [.int (-9)]) (rest := []) (st2 := [.int 0]) ((by have h := c_isLetter (G := G) (S := S) (-9); rw [if_neg (by decide)] at h; exact h)) rfl lX4_15 rfl ⟨rfl, by decide, by decide, by decide, rfl, rfl⟩ ?_
          refine tf_go hx ftX4_boardFault 1 [true] 65 [some (.ref o), some (.int (nI (tf_bs T k))), some (.int (nI k)), some (.int (-9)), none] [] S rfl ⟨by decide, by decide, rfl⟩ ⟨trivial, (by decide)⟩ ?_
          refine tf_go hx ftX4_boardFault 2 [] 68 [some (.ref o), some (.int (nI (tf_bs T k))), some (.int (nI k)), some (.int (-9)), none] [.int 46, .int (-9)] S rfl ⟨by decide, by decide, rfl⟩ trivial ?_
          refine tf_go hx ftX4_boardFault 2 [false] 72 [some (.ref o), some (.int (nI (tf_bs T k))), some (.int (nI k)), some (.int (-9)), none] [.int (nI k)] S rfl ⟨by decide, by decide, rfl⟩ ⟨trivial, (by decide)⟩ ?_
          exact tf_ret ftX4_boardFault hR rfl ⟨by decide, by decide⟩ rfl rfl (by rw [← he, tf_fst_y (by unfold tf_bb; simp; exact Or.inl (by omega)), if_pos (by omega)]; rfl)
  exact loop 32 0 rfl rfl

set_option maxHeartbeats 1000000 in
theorem r_signsInto {G : tf_G} {S : tf_Sg} {o q cap cap2 n : Nat} {T : Nat → Nat} (ho : tf_se G o cap2) (hV : tf_sV G S q cap n (fun j => nI (T j))) (hT : ∀ j, T j < 256) (fv : ∀ k, k < n → (97 ≤ T k ∧ T k ≤ 122) ∨ T k = 60) (hc : n ≤ cap2) (nqo : q ≠ o) (nqa : q ≠ tf_rf G o 0) (nao : tf_rf G q 0 ≠ o) (naa : tf_rf G q 0 ≠ tf_rf G o 0) : tf_Fn mX4_signsInto 2 0 0 G S [.ref o, .ref q] G (tf_wr S o (tf_rf G o 0) n (fun j => nI (tf_tv2 (T j)))) (some (.int (nI n))) := by
  have h1 := ho.1
  refine tf_Fn_of (own := RX4) false ⟨by decide, rfl, by decide⟩ (Nat.le_of_ble_eq_true rfl) trivial (fun x hx hR => ?_)
  show tf_K x 0 0 G S 0 [some (.ref o), some (.ref q), none, none] []
  have n48 := tf_sV_le hV
  have hne := tf_se_ne ho
  have hq1 := hV.1.1
  refine tf_go hx ftX4_signsInto 1 [] 1 [some (.ref o), some (.ref q), none, none] [.ref o] S rfl ⟨by decide, by decide, rfl⟩ trivial ?_
  refine tf_cV hx ftX4_signsInto (nx := 4) (As := []) (rest := []) (st2 := []) (c_clear h1) rfl lX4_25 (by first | assumption | rfl | decide) rfl ⟨rfl, by decide, by decide, by decide, rfl, rfl⟩ ?_
  refine tf_go hx ftX4_signsInto 2 [] 6 [some (.ref o), some (.ref q), some (.int 0), none] [] (tf_set S o 1 0) rfl ⟨by decide, by decide, rfl⟩ trivial ?_
  rw [← (tf_wr_0 (S := S) (o := o) (a := tf_rf G o 0) (f := (fun j => nI (tf_tv2 (T j))))).resolve_right (Ne.symm hne)]
  have loop : ∀ (m k : Nat), k + m = n → tf_K x 0 0 G (tf_wr S o (tf_rf G o 0) k (fun j => nI (tf_tv2 (T j)))) 6 [some (.ref o), some (.ref q), some (.int (nI k)), none] [] := by
    intro m
    induction m with
    | zero =>
      intro k hk
      have hV2 : tf_sV G (tf_wr S o (tf_rf G o 0) k (fun j => nI (tf_tv2 (T j)))) q cap n (fun j => nI (T j)) := tf_sV_fr hV (tf_wr_ne nqo nqa) (tf_wr_ne nao naa)
      refine tf_go hx ftX4_signsInto 2 [] 8 [some (.ref o), some (.ref q), some (.int (nI k)), none] [.ref q, .int (nI k)] (tf_wr S o (tf_rf G o 0) k (fun j => nI (tf_tv2 (T j)))) rfl ⟨by decide, by decide, rfl⟩ trivial ?_
      refine tf_cV hx ftX4_signsInto (nx := 11) (As := []) (rest := [.int (nI k)]) (st2 := [.int (nI n), .int (nI k)]) (v_size hV2) rfl lX4_21 (by first | assumption | rfl | decide) rfl ⟨rfl, by decide, by decide, by decide, rfl, rfl⟩ ?_
      refine tf_go hx ftX4_signsInto 2 [true] 47 [some (.ref o), some (.ref q), some (.int (nI k)), none] [.ref o] (tf_wr S o (tf_rf G o 0) k (fun j => nI (tf_tv2 (T j)))) rfl ⟨by decide, by decide, rfl⟩ ⟨trivial, (tf_leT (a := n) (b := k) rfl rfl (by omega) (by omega) (by omega))⟩ ?_
      rw [show k = n by omega]
      refine tf_cV hx ftX4_signsInto (nx := 50) (As := []) (rest := []) (st2 := [.int (nI n)]) ((by have h := c_size (G := G) (S := (tf_wr S o (tf_rf G o 0) n (fun j => nI (tf_tv2 (T j))))) h1; rw [tf_wr_o hne] at h; exact h)) rfl lX4_21 (by first | assumption | rfl | decide) rfl ⟨rfl, by decide, by decide, by decide, rfl, rfl⟩ ?_
      exact tf_ret ftX4_signsInto hR rfl ⟨by decide, by decide⟩ rfl rfl rfl
    | succ m ih =>
      intro k hk
      have hV2 : tf_sV G (tf_wr S o (tf_rf G o 0) k (fun j => nI (tf_tv2 (T j)))) q cap n (fun j => nI (T j)) := tf_sV_fr hV (tf_wr_ne nqo nqa) (tf_wr_ne nao naa)
      refine tf_go hx ftX4_signsInto 2 [] 8 [some (.ref o), some (.ref q), some (.int (nI k)), none] [.ref q, .int (nI k)] (tf_wr S o (tf_rf G o 0) k (fun j => nI (tf_tv2 (T j)))) rfl ⟨by decide, by decide, rfl⟩ trivial ?_
      refine tf_cV hx ftX4_signsInto (nx := 11) (As := []) (rest := [.int (nI k)]) (st2 := [.int (nI n), .int (nI k)]) (v_size hV2) rfl lX4_21 (by first | assumption | rfl | decide) rfl ⟨rfl, by decide, by decide, by decide, rfl, rfl⟩ ?_
      refine tf_go hx ftX4_signsInto 1 [false] 14 [some (.ref o), some (.ref q), some (.int (nI k)), none] [] (tf_wr S o (tf_rf G o 0) k (fun j => nI (tf_tv2 (T j)))) rfl ⟨by decide, by decide, rfl⟩ ⟨trivial, (tf_leF (a := n) (b := k) rfl rfl (by omega) (by omega) (by omega))⟩ ?_
      refine tf_go hx ftX4_signsInto 2 [] 16 [some (.ref o), some (.ref q), some (.int (nI k)), none] [.int (nI k), .ref q] (tf_wr S o (tf_rf G o 0) k (fun j => nI (tf_tv2 (T j)))) rfl ⟨by decide, by decide, rfl⟩ trivial ?_
      refine tf_cV hx ftX4_signsInto (nx := 19) (As := [.int (nI k)]) (rest := []) (st2 := [.int (nI (T k))]) (v_at hV2 (show k < n by omega)) rfl lX4_9 (by first | assumption | rfl | decide) rfl ⟨rfl, by decide, by decide, by decide, rfl, rfl⟩ ?_
      have c3 := hT k
      have c4 := fv k (by omega)
      refine tf_go hx ftX4_signsInto 3 [] 22 [some (.ref o), some (.ref q), some (.int (nI k)), some (.int (nI (T k)))] [.int (nI (T k)), .ref o] (tf_wr S o (tf_rf G o 0) k (fun j => nI (tf_tv2 (T j)))) rfl ⟨by decide, by decide, rfl⟩ trivial ?_
      refine tf_cS hx ftX4_signsInto (nx := 25) (As := [.int (nI (T k))]) (rest := [.ref o]) (st2 := [.int (if tf_lt (T k) = true then 1 else 0), .ref o]) ((by have h := c_isLetter (G := G) (S := (tf_wr S o (tf_rf G o 0) k (fun j => nI (tf_tv2 (T j))))) (nI (T k)); rw [tf_lt_i c3] at h; exact h)) rfl lX4_15 rfl ⟨rfl, by decide, by decide, by decide, rfl, rfl⟩ ?_
      by_cases e1 : tf_lt (T k) = true
      · obtain ⟨l1, l2⟩ := tf_lt_y e1
        have tv : nI (T k - 97) = nI (tf_tv2 (T k)) := by unfold tf_tv2; rw [if_neg (by omega)]
        rw [if_pos e1]
        refine tf_go hx ftX4_signsInto 1 [false] 28 [some (.ref o), some (.ref q), some (.int (nI k)), some (.int (nI (T k)))] [.ref o] (tf_wr S o (tf_rf G o 0) k (fun j => nI (tf_tv2 (T j)))) rfl ⟨by decide, by decide, rfl⟩ ⟨trivial, (by decide)⟩ ?_
        refine tf_go hx ftX4_signsInto 3 [] 32 [some (.ref o), some (.ref q), some (.int (nI k)), some (.int (nI (T k)))] [.int ((nI (T k)) - 97), .ref o] (tf_wr S o (tf_rf G o 0) k (fun j => nI (tf_tv2 (T j)))) rfl ⟨by decide, by decide, rfl⟩ trivial ?_
        rw [show ((nI (T k)) - 97) = nI ((T k) - 97) from (tf_sub (a := (T k)) (b := 97) rfl (rfl : (97 : Int32) = nI 97) (by omega))]
        refine tf_go hx ftX4_signsInto 1 [] 37 [some (.ref o), some (.ref q), some (.int (nI k)), some (.int (nI (T k)))] [.int (nI ((T k) - 97)), .ref o] (tf_wr S o (tf_rf G o 0) k (fun j => nI (tf_tv2 (T j)))) rfl ⟨by decide, by decide, rfl⟩ trivial ?_
        rw [show nI (T k - 97) = nI (tf_tv2 (T k)) from tv]
        refine tf_cV hx ftX4_signsInto (nx := 40) (As := [.int (nI (tf_tv2 (T k)))]) (rest := []) (st2 := []) ((by have h := c_add (S := (tf_wr S o (tf_rf G o 0) k (fun j => nI (tf_tv2 (T j))))) (n := k) (nI (tf_tv2 (T k))) ho (tf_wr_o hne) (by omega); rw [show tf_set (tf_set (tf_wr S o (tf_rf G o 0) k (fun j => nI (tf_tv2 (T j)))) (tf_rf G o 0) k (nI (tf_tv2 (T k)))) o 1 (nI (k + 1)) = (tf_wr S o (tf_rf G o 0) (k + 1) (fun j => nI (tf_tv2 (T j)))) from tf_wr_s hne] at h; exact h)) rfl lX4_28 (by first | assumption | rfl | decide) rfl ⟨rfl, by decide, by decide, by decide, rfl, rfl⟩ ?_
        refine tf_go hx ftX4_signsInto 2 [] 6 [some (.ref o), some (.ref q), some (.int ((nI k) + 1)), some (.int (nI (T k)))] [] (tf_wr S o (tf_rf G o 0) (k + 1) (fun j => nI (tf_tv2 (T j)))) rfl ⟨by decide, by decide, rfl⟩ trivial ?_
        rw [show ((nI k) + 1) = nI (k + 1) from (tf_add (a := k) (b := 1) rfl (rfl : (1 : Int32) = nI 1))]
        refine tf_fgt [some (.ref o), some (.ref q), some (.int (nI (k + 1))), none] (by simp [tf_lss]) ?_
        exact ih (k + 1) (by omega)
      · have e2 : T k = 60 := by rcases c4 with h | h; exact absurd (by unfold tf_lt; simp; exact h) e1; exact h
        have tv : (26 : Int32) = nI (tf_tv2 (T k)) := by unfold tf_tv2; rw [if_pos e2]; rfl
        rw [if_neg e1]
        refine tf_go hx ftX4_signsInto 1 [true] 35 [some (.ref o), some (.ref q), some (.int (nI k)), some (.int (nI (T k)))] [.ref o] (tf_wr S o (tf_rf G o 0) k (fun j => nI (tf_tv2 (T j)))) rfl ⟨by decide, by decide, rfl⟩ ⟨trivial, (by decide)⟩ ?_
        refine tf_go hx ftX4_signsInto 1 [] 37 [some (.ref o), some (.ref q), some (.int (nI k)), some (.int (nI (T k)))] [.int 26, .ref o] (tf_wr S o (tf_rf G o 0) k (fun j => nI (tf_tv2 (T j)))) rfl ⟨by decide, by decide, rfl⟩ trivial ?_
        rw [show (26 : Int32) = nI (tf_tv2 (T k)) from tv]
        refine tf_cV hx ftX4_signsInto (nx := 40) (As := [.int (nI (tf_tv2 (T k)))]) (rest := []) (st2 := []) ((by have h := c_add (S := (tf_wr S o (tf_rf G o 0) k (fun j => nI (tf_tv2 (T j))))) (n := k) (nI (tf_tv2 (T k))) ho (tf_wr_o hne) (by omega); rw [show tf_set (tf_set (tf_wr S o (tf_rf G o 0) k (fun j => nI (tf_tv2 (T j)))) (tf_rf G o 0) k (nI (tf_tv2 (T k)))) o 1 (nI (k + 1)) = (tf_wr S o (tf_rf G o 0) (k + 1) (fun j => nI (tf_tv2 (T j)))) from tf_wr_s hne] at h; exact h)) rfl lX4_28 (by first | assumption | rfl | decide) rfl ⟨rfl, by decide, by decide, by decide, rfl, rfl⟩ ?_
        refine tf_go hx ftX4_signsInto 2 [] 6 [some (.ref o), some (.ref q), some (.int ((nI k) + 1)), some (.int (nI (T k)))] [] (tf_wr S o (tf_rf G o 0) (k + 1) (fun j => nI (tf_tv2 (T j)))) rfl ⟨by decide, by decide, rfl⟩ trivial ?_
        rw [show ((nI k) + 1) = nI (k + 1) from (tf_add (a := k) (b := 1) rfl (rfl : (1 : Int32) = nI 1))]
        refine tf_fgt [some (.ref o), some (.ref q), some (.int (nI (k + 1))), none] (by simp [tf_lss]) ?_
        exact ih (k + 1) (by omega)
  have h0 := loop n 0 (by omega)
  rw [nI_0] at h0
  exact h0

