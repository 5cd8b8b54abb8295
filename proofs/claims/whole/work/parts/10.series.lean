def fX5 : tf_F := [(3, 102, 0), (9, 101, 1), (15, 3, 0), (21, 3, 1)]
set_option maxRecDepth 100000 in
theorem okfX5 : tf_okF RX5 fX5 := by unfold tf_okF; decide +kernel

def tX5_at : tf_T := [(0, .iload_n 1, 1, 0, 0),
  (1, .ifCond .lt 20, 4, 21, 0),
  (4, .iload_n 1, 5, 0, 0),
  (5, .aload_n 0, 6, 0, 0),
  (6, .getfield 21, 9, 0, 0),
  (9, .if_icmp .ge 12, 12, 21, 0),
  (12, .aload_n 0, 13, 0, 0),
  (13, .getfield 15, 16, 0, 0),
  (16, .iload_n 1, 17, 0, 0),
  (17, .iaload, 18, 0, 0),
  (18, .goto 5, 21, 23, 0),
  (21, .bipush (-9), 23, 0, (-9)),
  (23, .ireturn, 24, 0, 0)]
set_option maxRecDepth 100000 in
theorem okX5_at : tf_okT cX5_at tX5_at := by unfold tf_okT; decide +kernel
theorem ftX5_at : 1 ≤ 1 ∧ tf_okF RX5 fX5 ∧ tf_okT cX5_at tX5_at := ⟨by decide, okfX5, okX5_at⟩
def mX5_at : tf_M := (yX5_at, cX5_at, 2, (some .int))

def tX5_add : tf_T := [(0, .aload_n 0, 1, 0, 0),
  (1, .getfield 21, 4, 0, 0),
  (4, .aload_n 0, 5, 0, 0),
  (5, .getfield 15, 8, 0, 0),
  (8, .arraylength, 9, 0, 0),
  (9, .if_icmp .ge 23, 12, 32, 0),
  (12, .aload_n 0, 13, 0, 0),
  (13, .getfield 15, 16, 0, 0),
  (16, .aload_n 0, 17, 0, 0),
  (17, .getfield 21, 20, 0, 0),
  (20, .iload_n 1, 21, 0, 0),
  (21, .iastore, 22, 0, 0),
  (22, .aload_n 0, 23, 0, 0),
  (23, .dup, 24, 0, 0),
  (24, .getfield 21, 27, 0, 0),
  (27, .iconst 1, 28, 0, 1),
  (28, .iadd, 29, 0, 0),
  (29, .putfield 21, 32, 0, 0),
  (32, .return_, 33, 0, 0)]
set_option maxRecDepth 100000 in
theorem okX5_add : tf_okT cX5_add tX5_add := by unfold tf_okT; decide +kernel
theorem ftX5_add : 1 ≤ 1 ∧ tf_okF RX5 fX5 ∧ tf_okT cX5_add tX5_add := ⟨by decide, okfX5, okX5_add⟩
def mX5_add : tf_M := (yX5_add, cX5_add, 2, none)

def tX5_clear : tf_T := [(0, .aload_n 0, 1, 0, 0),
  (1, .iconst 0, 2, 0, 0),
  (2, .putfield 21, 5, 0, 0),
  (5, .return_, 6, 0, 0)]
set_option maxRecDepth 100000 in
theorem okX5_clear : tf_okT cX5_clear tX5_clear := by unfold tf_okT; decide +kernel
theorem ftX5_clear : 1 ≤ 1 ∧ tf_okF RX5 fX5 ∧ tf_okT cX5_clear tX5_clear := ⟨by decide, okfX5, okX5_clear⟩
def mX5_clear : tf_M := (yX5_clear, cX5_clear, 1, none)

def tX5_size : tf_T := [(0, .aload_n 0, 1, 0, 0),
  (1, .getfield 21, 4, 0, 0),
  (4, .ireturn, 5, 0, 0)]
set_option maxRecDepth 100000 in
theorem okX5_size : tf_okT cX5_size tX5_size := by unfold tf_okT; decide +kernel
theorem ftX5_size : 1 ≤ 1 ∧ tf_okF RX5 fX5 ∧ tf_okT cX5_size tX5_size := ⟨by decide, okfX5, okX5_size⟩
def mX5_size : tf_M := (yX5_size, cX5_size, 1, (some .int))

def tX5_copyFrom : tf_T := [(0, .aload_n 0, 1, 0, 0),
  (1, .invokevirtual 25, 4, 0, 0),
  (4, .iconst 0, 5, 0, 0),
  (5, .istore_n 2, 6, 0, 0),
  (6, .iload_n 2, 7, 0, 0),
  (7, .aload_n 1, 8, 0, 0),
  (8, .getfield 21, 11, 0, 0),
  (11, .if_icmp .ge 18, 14, 29, 0),
  (14, .aload_n 0, 15, 0, 0),
  (15, .aload_n 1, 16, 0, 0),
  (16, .iload_n 2, 17, 0, 0),
  (17, .invokevirtual 28, 20, 0, 0),
  (20, .invokevirtual 32, 23, 0, 0),
  (23, .iinc 2 1, 26, 0, 1),
  (26, .goto (-20), 29, 6, 0),
  (29, .return_, 30, 0, 0)]
set_option maxRecDepth 100000 in
theorem okX5_copyFrom : tf_okT cX5_copyFrom tX5_copyFrom := by unfold tf_okT; decide +kernel
theorem ftX5_copyFrom : 1 ≤ 2 ∧ tf_okF RX5 fX5 ∧ tf_okT cX5_copyFrom tX5_copyFrom := ⟨by decide, okfX5, okX5_copyFrom⟩
def mX5_copyFrom : tf_M := (yX5_copyFrom, cX5_copyFrom, 3, none)

def tX5_init : tf_T := [(0, .aload_n 0, 1, 0, 0),
  (1, .invokespecial 3, 4, 0, 0),
  (4, .aload_n 0, 5, 0, 0),
  (5, .iload_n 1, 6, 0, 0),
  (6, .iconst 0, 7, 0, 0),
  (7, .invokestatic 9, 10, 0, 0),
  (10, .newarray .int, 12, 0, 0),
  (12, .putfield 15, 15, 0, 0),
  (15, .aload_n 0, 16, 0, 0),
  (16, .iconst 0, 17, 0, 0),
  (17, .putfield 21, 20, 0, 0),
  (20, .return_, 21, 0, 0)]
set_option maxRecDepth 100000 in
theorem okX5_init : tf_okT cX5_init tX5_init := by unfold tf_okT; decide +kernel
theorem ftX5_init : 1 ≤ 1 ∧ tf_okF RX5 fX5 ∧ tf_okT cX5_init tX5_init := ⟨by decide, okfX5, okX5_init⟩
def mX5_init : tf_M := (yX5_init, cX5_init, 2, none)

set_option maxRecDepth 100000 in
theorem lX5_25 : tf_okV RX5 25 0 3 mX5_clear := by unfold tf_okV tf_okL; decide +kernel

set_option maxRecDepth 100000 in
theorem lX5_28 : tf_okV RX5 28 1 3 mX5_at := by unfold tf_okV tf_okL; decide +kernel

set_option maxRecDepth 100000 in
theorem lX5_32 : tf_okV RX5 32 1 3 mX5_add := by unfold tf_okV tf_okL; decide +kernel

set_option maxHeartbeats 1000000 in
theorem c_size {G : tf_G} {S : tf_Sg} {o : Nat} (h1 : tf_tg G o = 3) : tf_Fn mX5_size 1 0 0 G S [.ref o] G S (some (.int (S o 1))) := by
  refine tf_Fn_of (own := RX5) false ⟨by decide, rfl, by decide⟩ (Nat.le_of_ble_eq_true rfl) trivial (fun x hx hR => ?_)
  show tf_K x 0 0 G S 0 [some (.ref o)] []
  refine tf_go hx ftX5_size 2 [] 4 [some (.ref o)] [.int (S o 1)] S rfl ⟨by decide, by decide, rfl⟩ ⟨trivial, (by first | assumption | rfl | decide | omega)⟩ ?_
  exact tf_ret ftX5_size hR rfl ⟨by decide, by decide⟩ rfl rfl rfl

set_option maxHeartbeats 1000000 in
theorem c_at {G : tf_G} {S : tf_Sg} {o cap n : Nat} (i : Int32) (hs : tf_se G o cap) (hn : S o 1 = nI n) (hle : n ≤ cap) : tf_Fn mX5_at 1 0 0 G S [.ref o, .int i] G S (some (.int (tf_atv G S o i))) := by
  obtain ⟨h1, h2, h3, h4, h5⟩ := id hs
  refine tf_Fn_of (own := RX5) false ⟨by decide, rfl, by decide⟩ (Nat.le_of_ble_eq_true rfl) trivial (fun x hx hR => ?_)
  show tf_K x 0 0 G S 0 [some (.ref o), some (.int i)] []
  by_cases c1 : i < 0
  · refine tf_go hx ftX5_at 3 [true] 23 [some (.ref o), some (.int i)] [.int (-9)] S rfl ⟨by decide, by decide, rfl⟩ ⟨trivial, (by first | assumption | rfl | decide | omega)⟩ ?_
    exact tf_ret ftX5_at hR rfl ⟨by decide, by decide⟩ rfl rfl (by unfold tf_atv; rw [if_neg (by rintro ⟨h, -⟩; exact h c1)]; rfl)
  · by_cases c2 : S o 1 ≤ i
    · refine tf_go hx ftX5_at 7 [false, true] 23 [some (.ref o), some (.int i)] [.int (-9)] S rfl ⟨by decide, by decide, rfl⟩ ⟨⟨⟨trivial, (by first | assumption | rfl | decide | omega)⟩, (by first | assumption | rfl | decide | omega)⟩, (by first | assumption | rfl | decide | omega)⟩ ?_
      exact tf_ret ftX5_at hR rfl ⟨by decide, by decide⟩ rfl rfl (by unfold tf_atv; rw [if_neg (by rintro ⟨-, h⟩; exact h c2)]; rfl)
    · have h6 : vp_in i (tf_ln G (tf_rf G o 0)) := by rw [h4]; exact tf_nlt c1 (by rw [← hn]; exact c2) hle (by omega)
      refine tf_go hx ftX5_at 11 [false, false] 23 [some (.ref o), some (.int i)] [.int (S (tf_rf G o 0) (Int32.toNatClampNeg i))] S rfl ⟨by decide, by decide, rfl⟩ ⟨⟨⟨⟨⟨trivial, (by first | assumption | rfl | decide | omega)⟩, (by first | assumption | rfl | decide | omega)⟩, (by first | assumption | rfl | decide | omega)⟩, ⟨by first | assumption | rfl | decide | omega, by first | assumption | rfl | decide | omega⟩⟩, ⟨Or.inl (by first | assumption | rfl | decide | omega), by first | assumption | rfl | decide | omega⟩⟩ ?_
      exact tf_ret ftX5_at hR rfl ⟨by decide, by decide⟩ rfl rfl (by unfold tf_atv; rw [if_pos ⟨c1, c2⟩]; rfl)

set_option maxHeartbeats 1000000 in
theorem c_add {G : tf_G} {S : tf_Sg} {o cap n : Nat} (v : Int32) (hs : tf_se G o cap) (hn : S o 1 = nI n) (hlt : n < cap) : tf_Fn mX5_add 1 0 0 G S [.ref o, .int v] G (tf_set (tf_set S (tf_rf G o 0) n v) o 1 (nI (n + 1))) none := by
  obtain ⟨h1, h2, h3, h4, h5⟩ := id hs
  refine tf_Fn_of (own := RX5) false ⟨by decide, rfl, by decide⟩ (Nat.le_of_ble_eq_true rfl) trivial (fun x hx hR => ?_)
  show tf_K x 0 0 G S 0 [some (.ref o), some (.int v)] []
  have hne := tf_se_ne hs
  have hc : (S o 1).toNatClampNeg = n := by rw [hn]; exact tf_cl_nI (by omega)
  have h6 : vp_in (S o 1) (tf_ln G (tf_rf G o 0)) := by rw [h4, hn]; exact vp_in_nI hlt (by omega)
  refine tf_go hx ftX5_add 18 [false] 32 [some (.ref o), some (.int v)] [] (tf_set (tf_set S (tf_rf G o 0) (Int32.toNatClampNeg (S o 1)) v) o 1 (((tf_set S (tf_rf G o 0) (Int32.toNatClampNeg (S o 1)) v) o 1) + 1)) rfl ⟨by decide, by decide, rfl⟩ ⟨⟨⟨⟨⟨⟨⟨⟨⟨trivial, (by first | assumption | rfl | decide | omega)⟩, ⟨by first | assumption | rfl | decide | omega, by first | assumption | rfl | decide | omega⟩⟩, (Or.inl (by first | assumption | rfl | decide | omega))⟩, (by rw [h4, hn]; exact nI_ge hlt (by omega))⟩, ⟨by first | assumption | rfl | decide | omega, by first | assumption | rfl | decide | omega⟩⟩, (by first | assumption | rfl | decide | omega)⟩, ⟨by first | assumption | rfl | decide | omega, by first | assumption | rfl | decide | omega⟩⟩, (by first | assumption | rfl | decide | omega)⟩, (by first | assumption | rfl | decide | omega)⟩ ?_
  exact tf_ret ftX5_add hR rfl ⟨by decide, by decide⟩ rfl (by rw [hc, tf_set_n (Ne.symm hne), hn, nI_1]) rfl

set_option maxHeartbeats 1000000 in
theorem c_clear {G : tf_G} {S : tf_Sg} {o : Nat} (h1 : tf_tg G o = 3) : tf_Fn mX5_clear 1 0 0 G S [.ref o] G (tf_set S o 1 0) none := by
  refine tf_Fn_of (own := RX5) false ⟨by decide, rfl, by decide⟩ (Nat.le_of_ble_eq_true rfl) trivial (fun x hx hR => ?_)
  show tf_K x 0 0 G S 0 [some (.ref o)] []
  refine tf_go hx ftX5_clear 3 [] 5 [some (.ref o)] [] (tf_set S o 1 0) rfl ⟨by decide, by decide, rfl⟩ ⟨trivial, (by first | assumption | rfl | decide | omega)⟩ ?_
  exact tf_ret ftX5_clear hR rfl ⟨by decide, by decide⟩ rfl rfl rfl

set_option maxHeartbeats 1000000 in
theorem c_copyFrom {G : tf_G} {S : tf_Sg} {o p cap cap2 n : Nat} (hs : tf_se G o cap) (hs2 : tf_se G p cap2) (hp : S p 1 = nI n) (hle : n ≤ cap) (hle2 : n ≤ cap2) (hpo : p ≠ o) (hpa : p ≠ tf_rf G o 0) (hao : tf_rf G p 0 ≠ o) (haa : tf_rf G p 0 ≠ tf_rf G o 0) : tf_Fn mX5_copyFrom 2 0 0 G S [.ref o, .ref p] G (tf_wr S o (tf_rf G o 0) n (fun j => S (tf_rf G p 0) j)) none := by
  obtain ⟨h1, h2, h3, h4, h5⟩ := id hs
  obtain ⟨g1, g2, g3, g4, g5⟩ := id hs2
  refine tf_Fn_of (own := RX5) false ⟨by decide, rfl, by decide⟩ (Nat.le_of_ble_eq_true rfl) trivial (fun x hx hR => ?_)
  show tf_K x 0 0 G S 0 [some (.ref o), some (.ref p), none] []
  have hne := tf_se_ne hs
  refine tf_go hx ftX5_copyFrom 1 [] 1 [some (.ref o), some (.ref p), none] [.ref o] S rfl ⟨by decide, by decide, rfl⟩ trivial ?_
  refine tf_cV hx ftX5_copyFrom (nx := 4) (As := []) (rest := []) (st2 := []) (c_clear h1) rfl lX5_25 (by first | assumption | rfl | decide) rfl ⟨rfl, by decide, by decide, by decide, rfl, rfl⟩ ?_
  refine tf_go hx ftX5_copyFrom 2 [] 6 [some (.ref o), some (.ref p), some (.int 0)] [] (tf_set S o 1 0) rfl ⟨by decide, by decide, rfl⟩ trivial ?_
  rw [← (tf_wr_0 (S := S) (o := o) (a := tf_rf G o 0) (f := (fun j => S (tf_rf G p 0) j))).resolve_right (Ne.symm hne)]
  have loop : ∀ (m k : Nat), k + m = n → tf_K x 0 0 G (tf_wr S o (tf_rf G o 0) k (fun j => S (tf_rf G p 0) j)) 6 [some (.ref o), some (.ref p), some (.int (nI k))] [] := by
    intro m
    induction m with
      | zero =>
        intro k hk
        have hp1 : tf_wr S o (tf_rf G o 0) k (fun j => S (tf_rf G p 0) j) p 1 = nI n := by rw [tf_wr_ne hpo hpa, hp]
        have hk2 : k = n := by omega
        subst hk2
        refine tf_go hx ftX5_copyFrom 4 [true] 29 [some (.ref o), some (.ref p), some (.int (nI k))] [] (tf_wr S o (tf_rf G o 0) k (fun j => S (tf_rf G p 0) j)) rfl ⟨by decide, by decide, rfl⟩ ⟨⟨trivial, (by first | assumption | rfl | decide | omega)⟩, (by rw [hp1]; exact nI_le (Nat.le_refl _) (by omega))⟩ ?_
        exact tf_ret ftX5_copyFrom hR rfl ⟨by decide, by decide⟩ rfl rfl rfl
      | succ m ih =>
        intro k hk
        have hp1 : tf_wr S o (tf_rf G o 0) k (fun j => S (tf_rf G p 0) j) p 1 = nI n := by rw [tf_wr_ne hpo hpa, hp]
        refine tf_go hx ftX5_copyFrom 7 [false] 17 [some (.ref o), some (.ref p), some (.int (nI k))] [.int (nI k), .ref p, .ref o] (tf_wr S o (tf_rf G o 0) k (fun j => S (tf_rf G p 0) j)) rfl ⟨by decide, by decide, rfl⟩ ⟨⟨trivial, (by first | assumption | rfl | decide | omega)⟩, (by rw [hp1]; exact nI_ge (by omega) (by omega))⟩ ?_
        have hv : tf_atv G (tf_wr S o (tf_rf G o 0) k (fun j => S (tf_rf G p 0) j)) p (nI k) = S (tf_rf G p 0) k := by rw [tf_atv_in hp1 (by omega) (by omega), tf_wr_ne hao haa]
        refine tf_cV hx ftX5_copyFrom (nx := 20) (As := [.int (nI k)]) (rest := [.ref o]) (st2 := [.int (S (tf_rf G p 0) k), .ref o]) ((by have h := c_at (nI k) hs2 hp1 (by omega); rw [hv] at h; exact h)) rfl lX5_28 (by first | assumption | rfl | decide) rfl ⟨rfl, by decide, by decide, by decide, rfl, rfl⟩ ?_
        refine tf_cV hx ftX5_copyFrom (nx := 23) (As := [.int (S (tf_rf G p 0) k)]) (rest := []) (st2 := []) ((by have h := c_add (S (tf_rf G p 0) k) hs (tf_wr_o (S := S) (f := fun j => S (tf_rf G p 0) j) hne) (show k < cap by omega); rw [show tf_set (tf_set (tf_wr S o (tf_rf G o 0) k (fun j => S (tf_rf G p 0) j)) (tf_rf G o 0) k (S (tf_rf G p 0) k)) o 1 (nI (k + 1)) = tf_wr S o (tf_rf G o 0) (k + 1) (fun j => S (tf_rf G p 0) j) from tf_wr_s hne] at h; exact h)) rfl lX5_32 (by first | assumption | rfl | decide) rfl ⟨rfl, by decide, by decide, by decide, rfl, rfl⟩ ?_
        refine tf_go hx ftX5_copyFrom 2 [] 6 [some (.ref o), some (.ref p), some (.int ((nI k) + 1))] [] (tf_wr S o (tf_rf G o 0) (k + 1) (fun j => S (tf_rf G p 0) j)) rfl ⟨by decide, by decide, rfl⟩ trivial ?_
        rw [show ((nI k) + 1) = nI (k + 1) from (tf_add rfl (rfl : (1 : Int32) = nI 1))]
        exact ih (k + 1) (by omega)
  have h0 := loop n 0 (by omega)
  rw [nI_0] at h0
  exact h0

