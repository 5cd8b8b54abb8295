def fX9 : tf_F := [(3, 102, 0), (11, 6, 0), (20, 6, 1), (24, 6, 2), (38, 101, 0)]
set_option maxRecDepth 100000 in
theorem okfX9 : tf_okF RX9 fX9 := by unfold tf_okF; decide +kernel

def tX9_size : tf_T := [(0, .aload_n 0, 1, 0, 0),
  (1, .getfield 24, 4, 0, 0),
  (4, .ireturn, 5, 0, 0)]
set_option maxRecDepth 100000 in
theorem okX9_size : tf_okT cX9_size tX9_size := by unfold tf_okT; decide +kernel
theorem ftX9_size : 1 ≤ 1 ∧ tf_okF RX9 fX9 ∧ tf_okT cX9_size tX9_size := ⟨by decide, okfX9, okX9_size⟩
def mX9_size : tf_M := (yX9_size, cX9_size, 1, (some .int))

def tX9_noWord : tf_T := [(0, .iload_n 1, 1, 0, 0),
  (1, .ifCond .lt 11, 4, 12, 0),
  (4, .iload_n 1, 5, 0, 0),
  (5, .aload_n 0, 6, 0, 0),
  (6, .getfield 24, 9, 0, 0),
  (9, .if_icmp .lt 7, 12, 16, 0),
  (12, .iconst 1, 13, 0, 1),
  (13, .goto 4, 16, 17, 0),
  (16, .iconst 0, 17, 0, 0),
  (17, .ireturn, 18, 0, 0)]
set_option maxRecDepth 100000 in
theorem okX9_noWord : tf_okT cX9_noWord tX9_noWord := by unfold tf_okT; decide +kernel
theorem ftX9_noWord : 1 ≤ 1 ∧ tf_okF RX9 fX9 ∧ tf_okT cX9_noWord tX9_noWord := ⟨by decide, okfX9, okX9_noWord⟩
def mX9_noWord : tf_M := (yX9_noWord, cX9_noWord, 2, (some .boolean))

def tX9_addFrom : tf_T := [(0, .aload_n 0, 1, 0, 0),
  (1, .getfield 24, 4, 0, 0),
  (4, .bipush 10, 6, 0, 10),
  (6, .if_icmp .lt 6, 9, 12, 0),
  (9, .bipush (-9), 11, 0, (-9)),
  (11, .ireturn, 12, 0, 0),
  (12, .aload_n 0, 13, 0, 0),
  (13, .getfield 11, 16, 0, 0),
  (16, .aload_n 0, 17, 0, 0),
  (17, .getfield 24, 20, 0, 0),
  (20, .aaload, 21, 0, 0),
  (21, .aload_n 1, 22, 0, 0),
  (22, .invokestatic 28, 25, 0, 0),
  (25, .pop, 26, 0, 0),
  (26, .aload_n 0, 27, 0, 0),
  (27, .getfield 20, 30, 0, 0),
  (30, .aload_n 0, 31, 0, 0),
  (31, .getfield 24, 34, 0, 0),
  (34, .iconst 0, 35, 0, 0),
  (35, .iastore, 36, 0, 0),
  (36, .aload_n 0, 37, 0, 0),
  (37, .dup, 38, 0, 0),
  (38, .getfield 24, 41, 0, 0),
  (41, .iconst 1, 42, 0, 1),
  (42, .iadd, 43, 0, 0),
  (43, .putfield 24, 46, 0, 0),
  (46, .aload_n 0, 47, 0, 0),
  (47, .getfield 24, 50, 0, 0),
  (50, .iconst 1, 51, 0, 1),
  (51, .isub, 52, 0, 0),
  (52, .ireturn, 53, 0, 0)]
set_option maxRecDepth 100000 in
theorem okX9_addFrom : tf_okT cX9_addFrom tX9_addFrom := by unfold tf_okT; decide +kernel
theorem ftX9_addFrom : 1 ≤ 3 ∧ tf_okF RX9 fX9 ∧ tf_okT cX9_addFrom tX9_addFrom := ⟨by decide, okfX9, okX9_addFrom⟩
def mX9_addFrom : tf_M := (yX9_addFrom, cX9_addFrom, 2, (some .int))

def tX9_useMore : tf_T := [(0, .aload_n 0, 1, 0, 0),
  (1, .iload_n 1, 2, 0, 0),
  (2, .invokevirtual 34, 5, 0, 0),
  (5, .ifCond .eq 6, 8, 11, 0),
  (8, .bipush (-9), 10, 0, (-9)),
  (10, .ireturn, 11, 0, 0),
  (11, .aload_n 0, 12, 0, 0),
  (12, .getfield 20, 15, 0, 0),
  (15, .iload_n 1, 16, 0, 0),
  (16, .aload_n 0, 17, 0, 0),
  (17, .getfield 20, 20, 0, 0),
  (20, .iload_n 1, 21, 0, 0),
  (21, .iaload, 22, 0, 0),
  (22, .iload_n 2, 23, 0, 0),
  (23, .iadd, 24, 0, 0),
  (24, .sipush 9999, 27, 0, 9999),
  (27, .invokestatic 38, 30, 0, 0),
  (30, .iastore, 31, 0, 0),
  (31, .aload_n 0, 32, 0, 0),
  (32, .getfield 20, 35, 0, 0),
  (35, .iload_n 1, 36, 0, 0),
  (36, .iaload, 37, 0, 0),
  (37, .ireturn, 38, 0, 0)]
set_option maxRecDepth 100000 in
theorem okX9_useMore : tf_okT cX9_useMore tX9_useMore := by unfold tf_okT; decide +kernel
theorem ftX9_useMore : 1 ≤ 2 ∧ tf_okF RX9 fX9 ∧ tf_okT cX9_useMore tX9_useMore := ⟨by decide, okfX9, okX9_useMore⟩
def mX9_useMore : tf_M := (yX9_useMore, cX9_useMore, 3, (some .int))

def tX9_lengthOf : tf_T := [(0, .aload_n 0, 1, 0, 0),
  (1, .iload_n 1, 2, 0, 0),
  (2, .invokevirtual 34, 5, 0, 0),
  (5, .ifCond .eq 7, 8, 12, 0),
  (8, .iconst 1, 9, 0, 1),
  (9, .goto 12, 12, 21, 0),
  (12, .aload_n 0, 13, 0, 0),
  (13, .getfield 11, 16, 0, 0),
  (16, .iload_n 1, 17, 0, 0),
  (17, .aaload, 18, 0, 0),
  (18, .invokevirtual 44, 21, 0, 0),
  (21, .ireturn, 22, 0, 0)]
set_option maxRecDepth 100000 in
theorem okX9_lengthOf : tf_okT cX9_lengthOf tX9_lengthOf := by unfold tf_okT; decide +kernel
theorem ftX9_lengthOf : 1 ≤ 2 ∧ tf_okF RX9 fX9 ∧ tf_okT cX9_lengthOf tX9_lengthOf := ⟨by decide, okfX9, okX9_lengthOf⟩
def mX9_lengthOf : tf_M := (yX9_lengthOf, cX9_lengthOf, 2, (some .int))

def tX9_hundredthsOf : tf_T := [(0, .aload_n 0, 1, 0, 0),
  (1, .iload_n 1, 2, 0, 0),
  (2, .invokevirtual 34, 5, 0, 0),
  (5, .ifCond .eq 6, 8, 11, 0),
  (8, .bipush 100, 10, 0, 100),
  (10, .ireturn, 11, 0, 0),
  (11, .bipush 100, 13, 0, 100),
  (13, .iconst 5, 14, 0, 5),
  (14, .aload_n 0, 15, 0, 0),
  (15, .getfield 20, 18, 0, 0),
  (18, .iload_n 1, 19, 0, 0),
  (19, .iaload, 20, 0, 0),
  (20, .bipush 10, 22, 0, 10),
  (22, .invokestatic 38, 25, 0, 0),
  (25, .imul, 26, 0, 0),
  (26, .isub, 27, 0, 0),
  (27, .ireturn, 28, 0, 0)]
set_option maxRecDepth 100000 in
theorem okX9_hundredthsOf : tf_okT cX9_hundredthsOf tX9_hundredthsOf := by unfold tf_okT; decide +kernel
theorem ftX9_hundredthsOf : 1 ≤ 2 ∧ tf_okF RX9 fX9 ∧ tf_okT cX9_hundredthsOf tX9_hundredthsOf := ⟨by decide, okfX9, okX9_hundredthsOf⟩
def mX9_hundredthsOf : tf_M := (yX9_hundredthsOf, cX9_hundredthsOf, 2, (some .int))

def tX9_longestAt : tf_T := [(0, .bipush (-9), 2, 0, (-9)),
  (2, .istore_n 3, 3, 0, 0),
  (3, .iconst 0, 4, 0, 0),
  (4, .istore 4, 6, 0, 0),
  (6, .iload 4, 8, 0, 0),
  (8, .aload_n 0, 9, 0, 0),
  (9, .getfield 24, 12, 0, 0),
  (12, .if_icmp .ge 56, 15, 68, 0),
  (15, .aload_n 0, 16, 0, 0),
  (16, .getfield 20, 19, 0, 0),
  (19, .iload 4, 21, 0, 0),
  (21, .iaload, 22, 0, 0),
  (22, .iconst 3, 23, 0, 3),
  (23, .if_icmp .lt 39, 26, 62, 0),
  (26, .aload_n 0, 27, 0, 0),
  (27, .getfield 11, 30, 0, 0),
  (30, .iload 4, 32, 0, 0),
  (32, .aaload, 33, 0, 0),
  (33, .aload_n 1, 34, 0, 0),
  (34, .iload_n 2, 35, 0, 0),
  (35, .invokestatic 47, 38, 0, 0),
  (38, .ifCond .eq 24, 41, 62, 0),
  (41, .iload_n 3, 42, 0, 0),
  (42, .ifCond .lt 17, 45, 59, 0),
  (45, .aload_n 0, 46, 0, 0),
  (46, .iload 4, 48, 0, 0),
  (48, .invokevirtual 51, 51, 0, 0),
  (51, .aload_n 0, 52, 0, 0),
  (52, .iload_n 3, 53, 0, 0),
  (53, .invokevirtual 51, 56, 0, 0),
  (56, .if_icmp .le 6, 59, 62, 0),
  (59, .iload 4, 61, 0, 0),
  (61, .istore_n 3, 62, 0, 0),
  (62, .iinc 4 1, 65, 0, 1),
  (65, .goto (-59), 68, 6, 0),
  (68, .iload_n 3, 69, 0, 0),
  (69, .ireturn, 70, 0, 0)]
set_option maxRecDepth 100000 in
theorem okX9_longestAt : tf_okT cX9_longestAt tX9_longestAt := by unfold tf_okT; decide +kernel
theorem ftX9_longestAt : 1 ≤ 3 ∧ tf_okF RX9 fX9 ∧ tf_okT cX9_longestAt tX9_longestAt := ⟨by decide, okfX9, okX9_longestAt⟩
def mX9_longestAt : tf_M := (yX9_longestAt, cX9_longestAt, 5, (some .int))

def tX9_standsAt : tf_T := [(0, .iconst 0, 1, 0, 0),
  (1, .istore_n 3, 2, 0, 0),
  (2, .iload_n 3, 3, 0, 0),
  (3, .aload_n 0, 4, 0, 0),
  (4, .invokevirtual 44, 7, 0, 0),
  (7, .if_icmp .ge 26, 10, 33, 0),
  (10, .aload_n 1, 11, 0, 0),
  (11, .iload_n 2, 12, 0, 0),
  (12, .iload_n 3, 13, 0, 0),
  (13, .iadd, 14, 0, 0),
  (14, .invokevirtual 55, 17, 0, 0),
  (17, .aload_n 0, 18, 0, 0),
  (18, .iload_n 3, 19, 0, 0),
  (19, .invokevirtual 55, 22, 0, 0),
  (22, .if_icmp .eq 5, 25, 27, 0),
  (25, .iconst 0, 26, 0, 0),
  (26, .ireturn, 27, 0, 0),
  (27, .iinc 3 1, 30, 0, 1),
  (30, .goto (-28), 33, 2, 0),
  (33, .iconst 1, 34, 0, 1),
  (34, .ireturn, 35, 0, 0)]
set_option maxRecDepth 100000 in
theorem okX9_standsAt : tf_okT cX9_standsAt tX9_standsAt := by unfold tf_okT; decide +kernel
theorem ftX9_standsAt : 1 ≤ 2 ∧ tf_okF RX9 fX9 ∧ tf_okT cX9_standsAt tX9_standsAt := ⟨by decide, okfX9, okX9_standsAt⟩
def mX9_standsAt : tf_M := (yX9_standsAt, cX9_standsAt, 4, (some .boolean))

def tX9_copyFrom : tf_T := [(0, .aload_n 0, 1, 0, 0),
  (1, .aload_n 1, 2, 0, 0),
  (2, .getfield 24, 5, 0, 0),
  (5, .putfield 24, 8, 0, 0),
  (8, .iconst 0, 9, 0, 0),
  (9, .istore_n 2, 10, 0, 0),
  (10, .iload_n 2, 11, 0, 0),
  (11, .bipush 10, 13, 0, 10),
  (13, .if_icmp .ge 36, 16, 49, 0),
  (16, .aload_n 0, 17, 0, 0),
  (17, .getfield 11, 20, 0, 0),
  (20, .iload_n 2, 21, 0, 0),
  (21, .aaload, 22, 0, 0),
  (22, .aload_n 1, 23, 0, 0),
  (23, .getfield 11, 26, 0, 0),
  (26, .iload_n 2, 27, 0, 0),
  (27, .aaload, 28, 0, 0),
  (28, .invokevirtual 58, 31, 0, 0),
  (31, .aload_n 0, 32, 0, 0),
  (32, .getfield 20, 35, 0, 0),
  (35, .iload_n 2, 36, 0, 0),
  (36, .aload_n 1, 37, 0, 0),
  (37, .getfield 20, 40, 0, 0),
  (40, .iload_n 2, 41, 0, 0),
  (41, .iaload, 42, 0, 0),
  (42, .iastore, 43, 0, 0),
  (43, .iinc 2 1, 46, 0, 1),
  (46, .goto (-36), 49, 10, 0),
  (49, .return_, 50, 0, 0)]
set_option maxRecDepth 100000 in
theorem okX9_copyFrom : tf_okT cX9_copyFrom tX9_copyFrom := by unfold tf_okT; decide +kernel
theorem ftX9_copyFrom : 1 ≤ 3 ∧ tf_okF RX9 fX9 ∧ tf_okT cX9_copyFrom tX9_copyFrom := ⟨by decide, okfX9, okX9_copyFrom⟩
def mX9_copyFrom : tf_M := (yX9_copyFrom, cX9_copyFrom, 3, none)

def tX9_init : tf_T := [(0, .aload_n 0, 1, 0, 0),
  (1, .invokespecial 3, 4, 0, 0),
  (4, .aload_n 0, 5, 0, 0),
  (5, .bipush 10, 7, 0, 10),
  (7, .anewarray 9, 10, 0, 0),
  (10, .putfield 11, 13, 0, 0),
  (13, .iconst 0, 14, 0, 0),
  (14, .istore_n 1, 15, 0, 0),
  (15, .iload_n 1, 16, 0, 0),
  (16, .bipush 10, 18, 0, 10),
  (18, .if_icmp .ge 24, 21, 42, 0),
  (21, .aload_n 0, 22, 0, 0),
  (22, .getfield 11, 25, 0, 0),
  (25, .iload_n 1, 26, 0, 0),
  (26, .new 9, 29, 0, 0),
  (29, .dup, 30, 0, 0),
  (30, .bipush 8, 32, 0, 8),
  (32, .invokespecial 17, 35, 0, 0),
  (35, .aastore, 36, 0, 0),
  (36, .iinc 1 1, 39, 0, 1),
  (39, .goto (-24), 42, 15, 0),
  (42, .aload_n 0, 43, 0, 0),
  (43, .bipush 10, 45, 0, 10),
  (45, .newarray .int, 47, 0, 0),
  (47, .putfield 20, 50, 0, 0),
  (50, .aload_n 0, 51, 0, 0),
  (51, .iconst 0, 52, 0, 0),
  (52, .putfield 24, 55, 0, 0),
  (55, .return_, 56, 0, 0)]
set_option maxRecDepth 100000 in
theorem okX9_init : tf_okT cX9_init tX9_init := by unfold tf_okT; decide +kernel
theorem ftX9_init : 1 ≤ 2 ∧ tf_okF RX9 fX9 ∧ tf_okT cX9_init tX9_init := ⟨by decide, okfX9, okX9_init⟩
def mX9_init : tf_M := (yX9_init, cX9_init, 2, none)

set_option maxRecDepth 100000 in
theorem lX9_17 : tf_okI RX9 17 1 mX5_init := by unfold tf_okI tf_okL; decide +kernel

set_option maxRecDepth 100000 in
theorem lX9_28 : tf_okS RX9 28 2 mX4_signsInto := by unfold tf_okS tf_okL; decide +kernel

set_option maxRecDepth 100000 in
theorem lX9_34 : tf_okV RX9 34 1 6 mX9_noWord := by unfold tf_okV tf_okL; decide +kernel

set_option maxRecDepth 100000 in
theorem lX9_44 : tf_okV RX9 44 0 3 mX5_size := by unfold tf_okV tf_okL; decide +kernel

set_option maxRecDepth 100000 in
theorem lX9_47 : tf_okS RX9 47 3 mX9_standsAt := by unfold tf_okS tf_okL; decide +kernel

set_option maxRecDepth 100000 in
theorem lX9_51 : tf_okV RX9 51 1 6 mX9_lengthOf := by unfold tf_okV tf_okL; decide +kernel

set_option maxRecDepth 100000 in
theorem lX9_55 : tf_okV RX9 55 1 3 mX5_at := by unfold tf_okV tf_okL; decide +kernel

set_option maxRecDepth 100000 in
theorem lX9_58 : tf_okV RX9 58 1 3 mX5_copyFrom := by unfold tf_okV tf_okL; decide +kernel

/-- a WORD stands at a place, whatever it was PRACTISED -/
def tf_s2 (f : Nat → Nat) (w i : Nat) : Bool := decide (i + f (224 + 10 * w) ≤ f 364) && decide (tf_fst (fun k => !(f (144 + i + k) == f (224 + 10 * w + 2 + k))) (f (224 + 10 * w)) 0 = f (224 + 10 * w))
theorem tf_sd_2 (f : Nat → Nat) (w i : Nat) : tf_sd f w i = (decide (3 ≤ f (224 + 10 * w + 1)) && tf_s2 f w i) := by unfold tf_sd tf_s2; rw [Bool.and_assoc]
theorem tf_sz_ge {f : Nat → Nat} (hg : tf_gd f) (i : Nat) : 1 ≤ tf_sz f (tf_wd f i) ∧ tf_sz f (tf_wd f i) ≤ 8 := by
  have h := tf_wl_le f i (f 366) 0 10 (by omega) (Or.inl rfl)
  have g := hg.1.2.2.1
  unfold tf_sz tf_wd
  split
  · next h2 =>
    rcases h with h | h
    · omega
    · have := hg.2.1 _ h; omega
  · omega
theorem tf_wd_or {f : Nat → Nat} (i : Nat) : tf_wd f i = 10 ∨ tf_wd f i < f 366 := tf_wl_le f i (f 366) 0 10 (by omega) (Or.inl rfl)
/-- the class's WORDS hold these -/
def tf_wv (S : tf_Sg) (f : Nat → Nat) : Prop := S 32 2 = nI (f 366) ∧ (∀ w, w < f 366 → S (34 + 2 * w) 1 = nI (f (224 + 10 * w)) ∧ (∀ j, j < f (224 + 10 * w) → S (35 + 2 * w) j = nI (f (224 + 10 * w + 2 + j))) ∧ S 54 w = nI (f (224 + 10 * w + 1)))
theorem tf_wv_w {N : Nat} {S : tf_Sg} {f : Nat → Nat} (h : tf_wv S f) (hg : tf_gd f) {w : Nat} (hw : w < f 366) : tf_sV (tf_GG N) S (34 + 2 * w) 8 (f (224 + 10 * w)) (fun j => nI (f (224 + 10 * w + 2 + j))) := by
  have g1 := hg.1.2.2.1
  have g2 := hg.2.1 w hw
  obtain ⟨q1, q2, q3⟩ := wdn (N := N) (b := w) (by omega)
  obtain ⟨p1, p2, p3⟩ := h.2 w hw
  exact ⟨q1, p1, g2.2, by rw [q2]; exact p2⟩
theorem tf_on10 {f : Nat → Nat} (hg : tf_gd f) {w : Nat} (h : w = 10 ∨ w < f 366) : (w < f 366 ∧ w < 10) ∨ (¬ w < f 366 ∧ w = 10) := by
  have := hg.1.2.2.1
  omega

set_option maxHeartbeats 1000000 in
theorem w_size {N : Nat} {S : tf_Sg} {f : Nat → Nat} (hv : tf_wv S f) (hg : tf_gd f) (hb : ∀ k, f k < 10000) : tf_Fn mX9_size 1 0 0 (tf_GG N) S [.ref 32] (tf_GG N) S (some (.int (nI (f 366)))) := by
  have g10 := hg.1.2.2.1
  have h366 := hv.1
  refine tf_Fn_of (own := RX9) false ⟨by decide, rfl, by decide⟩ (Nat.le_of_ble_eq_true rfl) trivial (fun x hx hR => ?_)
  show tf_K x 0 0 (tf_GG N) S 0 [some (.ref 32)] []
  refine tf_go hx ftX9_size 2 [] 4 [some (.ref 32)] [.int (S 32 2)] S rfl ⟨by decide, by decide, rfl⟩ ⟨trivial, (by first | assumption | rfl | decide | omega | exact Nat.succ_ne_zero _)⟩ ?_
  rw [show (S 32 2) = nI (f 366) from h366]
  exact tf_ret ftX9_size hR rfl ⟨by decide, by decide⟩ rfl rfl rfl

set_option maxHeartbeats 1000000 in
theorem w_noWord {N : Nat} {S : tf_Sg} {f : Nat → Nat} {w : Nat} (hv : tf_wv S f) (hg : tf_gd f) (hb : ∀ k, f k < 10000) (hw : w = 10 ∨ w < f 366) : tf_Fn mX9_noWord 1 0 0 (tf_GG N) S [.ref 32, .int (tf_on 10 w)] (tf_GG N) S (some (.int (nI (if w < 10 then 0 else 1)))) := by
  have g10 := hg.1.2.2.1
  have h366 := hv.1
  have hw2 := tf_on10 hg hw
  refine tf_Fn_of (own := RX9) false ⟨by decide, rfl, by decide⟩ (Nat.le_of_ble_eq_true rfl) (by show nI (if _ then 0 else 1) = 0 ∨ _; split; exact Or.inl rfl; exact Or.inr rfl) (fun x hx hR => ?_)
  show tf_K x 0 0 (tf_GG N) S 0 [some (.ref 32), some (.int (tf_on 10 w))] []
  by_cases e1 : w < 10
  · have e2 : w < f 366 := by omega
    rw [tf_on_y e1]
    refine tf_go hx ftX9_noWord 1 [] 1 [some (.ref 32), some (.int (nI w))] [.int (nI w)] S rfl ⟨by decide, by decide, rfl⟩ trivial ?_
    refine tf_go hx ftX9_noWord 1 [false] 4 [some (.ref 32), some (.int (nI w))] [] S rfl ⟨by decide, by decide, rfl⟩ ⟨trivial, (tf_ltF (a := w) (b := 0) rfl (rfl : (0 : Int32) = nI 0) (by omega) (by omega) (by omega))⟩ ?_
    refine tf_go hx ftX9_noWord 3 [] 9 [some (.ref 32), some (.int (nI w))] [.int (S 32 2), .int (nI w)] S rfl ⟨by decide, by decide, rfl⟩ ⟨trivial, (by first | assumption | rfl | decide | omega | exact Nat.succ_ne_zero _)⟩ ?_
    rw [show (S 32 2) = nI (f 366) from h366]
    refine tf_go hx ftX9_noWord 2 [true] 17 [some (.ref 32), some (.int (nI w))] [.int 0] S rfl ⟨by decide, by decide, rfl⟩ ⟨trivial, (tf_ltT (a := w) (b := (f 366)) rfl rfl (by have := hb 366; omega) (by have := hb 366; omega) (by have := hb 366; omega))⟩ ?_
    exact tf_ret ftX9_noWord hR rfl ⟨by decide, by decide⟩ rfl rfl (by rw [if_pos e1]; rfl)
  · rw [tf_on_n e1]
    refine tf_go hx ftX9_noWord 1 [] 1 [some (.ref 32), some (.int (-9))] [.int (-9)] S rfl ⟨by decide, by decide, rfl⟩ trivial ?_
    refine tf_go hx ftX9_noWord 3 [true] 17 [some (.ref 32), some (.int (-9))] [.int 1] S rfl ⟨by decide, by decide, rfl⟩ ⟨trivial, (by decide)⟩ ?_
    exact tf_ret ftX9_noWord hR rfl ⟨by decide, by decide⟩ rfl rfl (by rw [if_neg e1]; rfl)

set_option maxHeartbeats 1000000 in
theorem w_lengthOf {N : Nat} {S : tf_Sg} {f : Nat → Nat} {w : Nat} (hv : tf_wv S f) (hg : tf_gd f) (hb : ∀ k, f k < 10000) (hw : w = 10 ∨ w < f 366) : tf_Fn mX9_lengthOf 2 0 0 (tf_GG N) S [.ref 32, .int (tf_on 10 w)] (tf_GG N) S (some (.int (nI (tf_sz f w)))) := by
  have g10 := hg.1.2.2.1
  have h366 := hv.1
  have hw2 := tf_on10 hg hw
  refine tf_Fn_of (own := RX9) false ⟨by decide, rfl, by decide⟩ (Nat.le_of_ble_eq_true rfl) trivial (fun x hx hR => ?_)
  show tf_K x 0 0 (tf_GG N) S 0 [some (.ref 32), some (.int (tf_on 10 w))] []
  refine tf_go hx ftX9_lengthOf 2 [] 2 [some (.ref 32), some (.int (tf_on 10 w))] [.int (tf_on 10 w), .ref 32] S rfl ⟨by decide, by decide, rfl⟩ trivial ?_
  refine tf_cV hx ftX9_lengthOf (nx := 5) (As := [.int (tf_on 10 w)]) (rest := []) (st2 := [.int (nI (if w < 10 then 0 else 1))]) (w_noWord hv hg hb hw) rfl lX9_34 (by first | assumption | rfl | decide) rfl ⟨rfl, by decide, by decide, by decide, rfl, rfl⟩ ?_
  by_cases e1 : w < 10
  · have e2 : w < f 366 := by omega
    rw [if_pos e1]
    refine tf_go hx ftX9_lengthOf 1 [true] 12 [some (.ref 32), some (.int (tf_on 10 w))] [] S rfl ⟨by decide, by decide, rfl⟩ ⟨trivial, rfl⟩ ?_
    rw [tf_on_y e1]
    have ar : tf_rf (tf_GG N) 33 (Int32.toNatClampNeg (nI w)) = 34 + 2 * w := by rw [tf_cl_nI (by omega)]; exact (wdn e1).2.2
    have arn : tf_rf (tf_GG N) 33 (Int32.toNatClampNeg (nI w)) ≠ 0 := by rw [ar]; omega
    refine tf_go hx ftX9_lengthOf 4 [] 18 [some (.ref 32), some (.int (nI w))] [.ref (tf_rf (tf_GG N) 33 (Int32.toNatClampNeg (nI w)))] S rfl ⟨by decide, by decide, rfl⟩ ⟨⟨trivial, ⟨by first | assumption | rfl | decide | omega | exact Nat.succ_ne_zero _, by first | assumption | rfl | decide | omega | exact Nat.succ_ne_zero _⟩⟩, ⟨by first | assumption | exact Or.inl rfl | exact Or.inr (Or.inl rfl) | exact Or.inr (Or.inr rfl) | omega, by exact tf_in (n := w) (N := 10) rfl (by first | assumption | rfl) (by omega) (by decide), by first | assumption | rfl | decide | omega | exact Nat.succ_ne_zero _⟩⟩ ?_
    rw [ar]
    clear ar arn
    have t3 : tf_tg (tf_GG N) (34 + 2 * w) = 3 := (wdn e1).1.1
    refine tf_cV hx ftX9_lengthOf (nx := 21) (As := []) (rest := []) (st2 := [.int (nI (f (224 + 10 * w)))]) (v_size (tf_wv_w hv hg e2)) rfl lX9_44 (by first | assumption | rfl | decide) rfl ⟨rfl, by decide, by decide, by decide, rfl, rfl⟩ ?_
    exact tf_ret ftX9_lengthOf hR rfl ⟨by decide, by decide⟩ rfl rfl (by unfold tf_sz; rw [if_pos e1]; rfl)
  · rw [if_neg e1]
    refine tf_go hx ftX9_lengthOf 1 [false] 8 [some (.ref 32), some (.int (tf_on 10 w))] [] S rfl ⟨by decide, by decide, rfl⟩ ⟨trivial, (by decide)⟩ ?_
    refine tf_go hx ftX9_lengthOf 2 [] 21 [some (.ref 32), some (.int (tf_on 10 w))] [.int 1] S rfl ⟨by decide, by decide, rfl⟩ trivial ?_
    exact tf_ret ftX9_lengthOf hR rfl ⟨by decide, by decide⟩ rfl rfl (by unfold tf_sz; rw [if_neg e1]; rfl)

set_option maxHeartbeats 1000000 in
theorem w_hundredths {N : Nat} {S : tf_Sg} {f : Nat → Nat} {w : Nat} (hv : tf_wv S f) (hg : tf_gd f) (hb : ∀ k, f k < 10000) (hw : w = 10 ∨ w < f 366) : tf_Fn mX9_hundredthsOf 2 0 0 (tf_GG N) S [.ref 32, .int (tf_on 10 w)] (tf_GG N) S (some (.int (nI (tf_pt f w)))) := by
  have g10 := hg.1.2.2.1
  have h366 := hv.1
  have hw2 := tf_on10 hg hw
  refine tf_Fn_of (own := RX9) false ⟨by decide, rfl, by decide⟩ (Nat.le_of_ble_eq_true rfl) trivial (fun x hx hR => ?_)
  show tf_K x 0 0 (tf_GG N) S 0 [some (.ref 32), some (.int (tf_on 10 w))] []
  refine tf_go hx ftX9_hundredthsOf 2 [] 2 [some (.ref 32), some (.int (tf_on 10 w))] [.int (tf_on 10 w), .ref 32] S rfl ⟨by decide, by decide, rfl⟩ trivial ?_
  refine tf_cV hx ftX9_hundredthsOf (nx := 5) (As := [.int (tf_on 10 w)]) (rest := []) (st2 := [.int (nI (if w < 10 then 0 else 1))]) (w_noWord hv hg hb hw) rfl lX9_34 (by first | assumption | rfl | decide) rfl ⟨rfl, by decide, by decide, by decide, rfl, rfl⟩ ?_
  by_cases e1 : w < 10
  · have e2 : w < f 366 := by omega
    rw [if_pos e1]
    refine tf_go hx ftX9_hundredthsOf 1 [true] 11 [some (.ref 32), some (.int (tf_on 10 w))] [] S rfl ⟨by decide, by decide, rfl⟩ ⟨trivial, rfl⟩ ?_
    rw [tf_on_y e1]
    have pv := (hv.2 w e2).2.2
    refine tf_go hx ftX9_hundredthsOf 6 [] 20 [some (.ref 32), some (.int (nI w))] [.int (S 54 (Int32.toNatClampNeg (nI w))), .int 5, .int 100] S rfl ⟨by decide, by decide, rfl⟩ ⟨⟨trivial, ⟨by first | assumption | rfl | decide | omega | exact Nat.succ_ne_zero _, by first | assumption | rfl | decide | omega | exact Nat.succ_ne_zero _⟩⟩, ⟨Or.inl (by first | assumption | rfl | decide | omega | exact Nat.succ_ne_zero _), by exact tf_in (n := w) (N := 10) rfl (by first | assumption | rfl) (by omega) (by decide)⟩⟩ ?_
    rw [show (S 54 (Int32.toNatClampNeg (nI w))) = nI (f (224 + 10 * w + 1)) from (by rw [tf_cl_nI (by omega)]; exact pv)]
    refine tf_go hx ftX9_hundredthsOf 1 [] 22 [some (.ref 32), some (.int (nI w))] [.int 10, .int (nI (f (224 + 10 * w + 1))), .int 5, .int 100] S rfl ⟨by decide, by decide, rfl⟩ trivial ?_
    have mn : (if (10 : Int32) < nI (f (224 + 10 * w + 1)) then (10 : Int32) else nI (f (224 + 10 * w + 1))) = nI (if f (224 + 10 * w + 1) ≤ 10 then f (224 + 10 * w + 1) else 10) := by
      have b1 := hb (224 + 10 * w + 1)
      by_cases q : f (224 + 10 * w + 1) ≤ 10
      · rw [if_pos q, if_neg (show ¬ (10 : Int32) < nI (f (224 + 10 * w + 1)) from tf_ltF (a := 10) (b := f (224 + 10 * w + 1)) rfl rfl q (by omega) (by omega))]
      · rw [if_neg q, if_pos (show (10 : Int32) < nI (f (224 + 10 * w + 1)) from tf_ltT (a := 10) (b := f (224 + 10 * w + 1)) rfl rfl (by omega) (by omega) (by omega))]; rfl
    refine tf_go hx ftX9_hundredthsOf 1 [] 25 [some (.ref 32), some (.int (nI w))] [.int (if 10 < (nI (f (224 + 10 * w + 1))) then 10 else (nI (f (224 + 10 * w + 1)))), .int 5, .int 100] S rfl ⟨by decide, by decide, rfl⟩ trivial ?_
    rw [mn]
    have ub : (if f (224 + 10 * w + 1) ≤ 10 then f (224 + 10 * w + 1) else 10) ≤ 10 := by split <;> omega
    have pe : tf_pt f w = 100 - 5 * (if f (224 + 10 * w + 1) ≤ 10 then f (224 + 10 * w + 1) else 10) := by unfold tf_pt; rw [if_pos e1]
    rw [pe] at hR
    generalize (if f (224 + 10 * w + 1) ≤ 10 then f (224 + 10 * w + 1) else 10) = u at *
    refine tf_go hx ftX9_hundredthsOf 1 [] 26 [some (.ref 32), some (.int (nI w))] [.int (5 * (nI u)), .int 100] S rfl ⟨by decide, by decide, rfl⟩ trivial ?_
    rw [show (5 * (nI u)) = nI (5 * u) from (tf_mul (a := 5) (b := u) (rfl : (5 : Int32) = nI 5) rfl)]
    refine tf_go hx ftX9_hundredthsOf 1 [] 27 [some (.ref 32), some (.int (nI w))] [.int (100 - (nI (5 * u)))] S rfl ⟨by decide, by decide, rfl⟩ trivial ?_
    rw [show (100 - (nI (5 * u))) = nI (100 - (5 * u)) from (tf_sub (a := 100) (b := (5 * u)) (rfl : (100 : Int32) = nI 100) rfl (by omega))]
    exact tf_ret ftX9_hundredthsOf hR rfl ⟨by decide, by decide⟩ rfl rfl rfl
  · rw [if_neg e1]
    refine tf_go hx ftX9_hundredthsOf 1 [false] 8 [some (.ref 32), some (.int (tf_on 10 w))] [] S rfl ⟨by decide, by decide, rfl⟩ ⟨trivial, (by decide)⟩ ?_
    refine tf_go hx ftX9_hundredthsOf 1 [] 10 [some (.ref 32), some (.int (tf_on 10 w))] [.int 100] S rfl ⟨by decide, by decide, rfl⟩ trivial ?_
    exact tf_ret ftX9_hundredthsOf hR rfl ⟨by decide, by decide⟩ rfl rfl (by unfold tf_pt; rw [if_neg e1]; rfl)

set_option maxHeartbeats 1000000 in
theorem w_standsAt {G : tf_G} {S : tf_Sg} {q r : Nat} {f : Nat → Nat} (w i : Nat) (hM : tf_sV G S q 40 (f 364) (fun j => nI (f (144 + j)))) (hW : tf_sV G S r 8 (f (224 + 10 * w)) (fun j => nI (f (224 + 10 * w + 2 + j)))) (hb : ∀ k, f k < 10000) (hi : i ≤ f 364) : tf_Fn mX9_standsAt 2 0 0 G S [.ref r, .ref q, .int (nI i)] G S (some (.int (nI (if tf_s2 f w i = true then 1 else 0)))) := by
  have m1 := hM.1.1
  have w1 := hW.1.1
  have m40 := hM.2.2.1
  have w8 := hW.2.2.1
  refine tf_Fn_of (own := RX9) false ⟨by decide, rfl, by decide⟩ (Nat.le_of_ble_eq_true rfl) (by show nI (if _ then 1 else 0) = 0 ∨ _; split; exact Or.inr rfl; exact Or.inl rfl) (fun x hx hR => ?_)
  show tf_K x 0 0 G S 0 [some (.ref r), some (.ref q), some (.int (nI i)), none] []
  refine tf_go hx ftX9_standsAt 2 [] 2 [some (.ref r), some (.ref q), some (.int (nI i)), some (.int 0)] [] S rfl ⟨by decide, by decide, rfl⟩ trivial ?_
  have loop : ∀ (m k : Nat), k + m = f (224 + 10 * w) → (tf_fst (fun k => !(f (144 + i + k) == f (224 + 10 * w + 2 + k))) m k = tf_fst (fun k => !(f (144 + i + k) == f (224 + 10 * w + 2 + k))) (f (224 + 10 * w)) 0) → (i + k ≤ f 364) → tf_K x 0 0 G S 2 [some (.ref r), some (.ref q), some (.int (nI i)), some (.int (nI k))] [] := by
    intro m
    induction m with
    | zero =>
      intro k hk he hik
      refine tf_go hx ftX9_standsAt 2 [] 4 [some (.ref r), some (.ref q), some (.int (nI i)), some (.int (nI k))] [.ref r, .int (nI k)] S rfl ⟨by decide, by decide, rfl⟩ trivial ?_
      refine tf_cV hx ftX9_standsAt (nx := 7) (As := []) (rest := [.int (nI k)]) (st2 := [.int (nI (f (224 + 10 * w))), .int (nI k)]) (v_size hW) rfl lX9_44 (by first | assumption | rfl | decide) rfl ⟨rfl, by decide, by decide, by decide, rfl, rfl⟩ ?_
      refine tf_go hx ftX9_standsAt 2 [true] 34 [some (.ref r), some (.ref q), some (.int (nI i)), some (.int (nI k))] [.int 1] S rfl ⟨by decide, by decide, rfl⟩ ⟨trivial, (tf_leT (a := (f (224 + 10 * w))) (b := k) rfl rfl (by have := hb (224 + 10 * w); omega) (by have := hb (224 + 10 * w); omega) (by have := hb (224 + 10 * w); omega))⟩ ?_
      rw [tf_fst_0] at he
      exact tf_ret ftX9_standsAt hR rfl ⟨by decide, by decide⟩ rfl rfl (by rw [if_pos (by unfold tf_s2; rw [← he]; simp; omega)]; rfl)
    | succ m ih =>
      intro k hk he hik
      refine tf_go hx ftX9_standsAt 2 [] 4 [some (.ref r), some (.ref q), some (.int (nI i)), some (.int (nI k))] [.ref r, .int (nI k)] S rfl ⟨by decide, by decide, rfl⟩ trivial ?_
      refine tf_cV hx ftX9_standsAt (nx := 7) (As := []) (rest := [.int (nI k)]) (st2 := [.int (nI (f (224 + 10 * w))), .int (nI k)]) (v_size hW) rfl lX9_44 (by first | assumption | rfl | decide) rfl ⟨rfl, by decide, by decide, by decide, rfl, rfl⟩ ?_
      refine tf_go hx ftX9_standsAt 1 [false] 10 [some (.ref r), some (.ref q), some (.int (nI i)), some (.int (nI k))] [] S rfl ⟨by decide, by decide, rfl⟩ ⟨trivial, (tf_leF (a := (f (224 + 10 * w))) (b := k) rfl rfl (by have := hb (224 + 10 * w); omega) (by have := hb (224 + 10 * w); omega) (by have := hb (224 + 10 * w); omega))⟩ ?_
      refine tf_go hx ftX9_standsAt 4 [] 14 [some (.ref r), some (.ref q), some (.int (nI i)), some (.int (nI k))] [.int ((nI i) + (nI k)), .ref q] S rfl ⟨by decide, by decide, rfl⟩ trivial ?_
      rw [show ((nI i) + (nI k)) = nI (i + k) from (tf_add (a := i) (b := k) rfl rfl)]
      by_cases e1 : i + k < f 364
      · refine tf_cV hx ftX9_standsAt (nx := 17) (As := [.int (nI (i + k))]) (rest := []) (st2 := [.int (nI (f (144 + (i + k))))]) (v_at hM e1) rfl lX9_55 (by first | assumption | rfl | decide) rfl ⟨rfl, by decide, by decide, by decide, rfl, rfl⟩ ?_
        refine tf_go hx ftX9_standsAt 2 [] 19 [some (.ref r), some (.ref q), some (.int (nI i)), some (.int (nI k))] [.int (nI k), .ref r, .int (nI (f (144 + (i + k))))] S rfl ⟨by decide, by decide, rfl⟩ trivial ?_
        refine tf_cV hx ftX9_standsAt (nx := 22) (As := [.int (nI k)]) (rest := [.int (nI (f (144 + (i + k))))]) (st2 := [.int (nI (f (224 + 10 * w + 2 + k))), .int (nI (f (144 + (i + k))))]) (v_at hW (show k < f (224 + 10 * w) by omega)) rfl lX9_55 (by first | assumption | rfl | decide) rfl ⟨rfl, by decide, by decide, by decide, rfl, rfl⟩ ?_
        by_cases e2 : f (144 + (i + k)) = f (224 + 10 * w + 2 + k)
        · refine tf_go hx ftX9_standsAt 1 [true] 27 [some (.ref r), some (.ref q), some (.int (nI i)), some (.int (nI k))] [] S rfl ⟨by decide, by decide, rfl⟩ ⟨trivial, (tf_eqT (a := (f (144 + (i + k)))) (b := (f (224 + 10 * w + 2 + k))) rfl rfl (by have := hb (144 + (i + k)); have := hb (224 + 10 * w + 2 + k); omega))⟩ ?_
          rw [tf_fst_n (by rw [← Nat.add_assoc] at e2; simp [e2])] at he
          refine tf_go hx ftX9_standsAt 2 [] 2 [some (.ref r), some (.ref q), some (.int (nI i)), some (.int ((nI k) + 1))] [] S rfl ⟨by decide, by decide, rfl⟩ trivial ?_
          rw [show ((nI k) + 1) = nI (k + 1) from (tf_add (a := k) (b := 1) rfl (rfl : (1 : Int32) = nI 1))]
          exact ih (k + 1) (by omega) he (by omega)
        · refine tf_go hx ftX9_standsAt 2 [false] 26 [some (.ref r), some (.ref q), some (.int (nI i)), some (.int (nI k))] [.int 0] S rfl ⟨by decide, by decide, rfl⟩ ⟨trivial, (tf_eqF (a := (f (144 + (i + k)))) (b := (f (224 + 10 * w + 2 + k))) rfl rfl (by have := hb (144 + (i + k)); have := hb (224 + 10 * w + 2 + k); omega) (by have := hb (144 + (i + k)); have := hb (224 + 10 * w + 2 + k); omega) (by have := hb (144 + (i + k)); have := hb (224 + 10 * w + 2 + k); omega))⟩ ?_
          rw [tf_fst_y (by rw [← Nat.add_assoc] at e2; simp [e2])] at he
          exact tf_ret ftX9_standsAt hR rfl ⟨by decide, by decide⟩ rfl rfl (by rw [if_neg (by unfold tf_s2; rw [← he]; simp; omega)]; rfl)
      · refine tf_cV hx ftX9_standsAt (nx := 17) (As := [.int (nI (i + k))]) (rest := []) (st2 := [.int (-9)]) (v_outn hM (show f 364 ≤ i + k by omega) (by omega)) rfl lX9_55 (by first | assumption | rfl | decide) rfl ⟨rfl, by decide, by decide, by decide, rfl, rfl⟩ ?_
        refine tf_go hx ftX9_standsAt 2 [] 19 [some (.ref r), some (.ref q), some (.int (nI i)), some (.int (nI k))] [.int (nI k), .ref r, .int (-9)] S rfl ⟨by decide, by decide, rfl⟩ trivial ?_
        refine tf_cV hx ftX9_standsAt (nx := 22) (As := [.int (nI k)]) (rest := [.int (-9)]) (st2 := [.int (nI (f (224 + 10 * w + 2 + k))), .int (-9)]) (v_at hW (show k < f (224 + 10 * w) by omega)) rfl lX9_55 (by first | assumption | rfl | decide) rfl ⟨rfl, by decide, by decide, by decide, rfl, rfl⟩ ?_
        refine tf_go hx ftX9_standsAt 2 [false] 26 [some (.ref r), some (.ref q), some (.int (nI i)), some (.int (nI k))] [.int 0] S rfl ⟨by decide, by decide, rfl⟩ ⟨trivial, (fun q => tf_n9 (a := f (224 + 10 * w + 2 + k)) (by have := hb (224 + 10 * w + 2 + k); omega) q.symm)⟩ ?_
        exact tf_ret ftX9_standsAt hR rfl ⟨by decide, by decide⟩ rfl rfl (by rw [if_neg (by unfold tf_s2; simp; omega)]; rfl)
  exact loop (f (224 + 10 * w)) 0 (by omega) rfl (by omega)

set_option maxHeartbeats 1000000 in
theorem w_longest {N : Nat} {S : tf_Sg} {f : Nat → Nat} {q : Nat} (i : Nat) (hv : tf_wv S f) (hg : tf_gd f) (hb : ∀ k, f k < 10000) (hM : tf_sV (tf_GG N) S q 40 (f 364) (fun j => nI (f (144 + j)))) (hi : i < f 364) : tf_Fn mX9_longestAt 3 0 0 (tf_GG N) S [.ref 32, .ref q, .int (nI i)] (tf_GG N) S (some (.int (tf_on 10 (tf_wd f i)))) := by
  have g10 := hg.1.2.2.1
  have h366 := hv.1
  have m40 := hM.2.2.1
  refine tf_Fn_of (own := RX9) false ⟨by decide, rfl, by decide⟩ (Nat.le_of_ble_eq_true rfl) trivial (fun x hx hR => ?_)
  show tf_K x 0 0 (tf_GG N) S 0 [some (.ref 32), some (.ref q), some (.int (nI i)), none, none] []
  refine tf_go hx ftX9_longestAt 4 [] 6 [some (.ref 32), some (.ref q), some (.int (nI i)), some (.int (-9)), some (.int 0)] [] S rfl ⟨by decide, by decide, rfl⟩ trivial ?_
  have loop : ∀ (m k : Nat) (best : Nat), k + m = f 366 → (tf_wl f i m k best = tf_wd f i) → (best = 10 ∨ best < f 366) → tf_K x 0 0 (tf_GG N) S 6 [some (.ref 32), some (.ref q), some (.int (nI i)), some (.int (tf_on 10 best)), some (.int (nI k))] [] := by
    intro m
    induction m with
    | zero =>
      intro k best hk he hbest
      refine tf_go hx ftX9_longestAt 3 [] 12 [some (.ref 32), some (.ref q), some (.int (nI i)), some (.int (tf_on 10 best)), some (.int (nI k))] [.int (S 32 2), .int (nI k)] S rfl ⟨by decide, by decide, rfl⟩ ⟨trivial, (by first | assumption | rfl | decide | omega | exact Nat.succ_ne_zero _)⟩ ?_
      rw [show (S 32 2) = nI (f 366) from h366]
      refine tf_go hx ftX9_longestAt 2 [true] 69 [some (.ref 32), some (.ref q), some (.int (nI i)), some (.int (tf_on 10 best)), some (.int (nI k))] [.int (tf_on 10 best)] S rfl ⟨by decide, by decide, rfl⟩ ⟨trivial, (tf_leT (a := (f 366)) (b := k) rfl rfl (by have := hb 366; omega) (by have := hb 366; omega) (by have := hb 366; omega))⟩ ?_
      exact tf_ret ftX9_longestAt hR rfl ⟨by decide, by decide⟩ rfl rfl (by rw [← he]; rfl)
    | succ m ih =>
      intro k best hk he hbest
      rw [tf_wl_s, tf_sd_2] at he
      have kw : k < f 366 := by omega
      have pv := (hv.2 k kw).2.2
      have hbest2 := tf_on10 hg hbest
      refine tf_go hx ftX9_longestAt 3 [] 12 [some (.ref 32), some (.ref q), some (.int (nI i)), some (.int (tf_on 10 best)), some (.int (nI k))] [.int (S 32 2), .int (nI k)] S rfl ⟨by decide, by decide, rfl⟩ ⟨trivial, (by first | assumption | rfl | decide | omega | exact Nat.succ_ne_zero _)⟩ ?_
      rw [show (S 32 2) = nI (f 366) from h366]
      refine tf_go hx ftX9_longestAt 1 [false] 15 [some (.ref 32), some (.ref q), some (.int (nI i)), some (.int (tf_on 10 best)), some (.int (nI k))] [] S rfl ⟨by decide, by decide, rfl⟩ ⟨trivial, (tf_leF (a := (f 366)) (b := k) rfl rfl (by have := hb 366; omega) (by have := hb 366; omega) (by have := hb 366; omega))⟩ ?_
      refine tf_go hx ftX9_longestAt 4 [] 22 [some (.ref 32), some (.ref q), some (.int (nI i)), some (.int (tf_on 10 best)), some (.int (nI k))] [.int (S 54 (Int32.toNatClampNeg (nI k)))] S rfl ⟨by decide, by decide, rfl⟩ ⟨⟨trivial, ⟨by first | assumption | rfl | decide | omega | exact Nat.succ_ne_zero _, by first | assumption | rfl | decide | omega | exact Nat.succ_ne_zero _⟩⟩, ⟨Or.inl (by first | assumption | rfl | decide | omega | exact Nat.succ_ne_zero _), by exact tf_in (n := k) (N := 10) rfl (by first | assumption | rfl) (by omega) (by decide)⟩⟩ ?_
      rw [show (S 54 (Int32.toNatClampNeg (nI k))) = nI (f (224 + 10 * k + 1)) from (by rw [tf_cl_nI (by omega)]; exact pv)]
      refine tf_go hx ftX9_longestAt 1 [] 23 [some (.ref 32), some (.ref q), some (.int (nI i)), some (.int (tf_on 10 best)), some (.int (nI k))] [.int 3, .int (nI (f (224 + 10 * k + 1)))] S rfl ⟨by decide, by decide, rfl⟩ trivial ?_
      by_cases e1 : f (224 + 10 * k + 1) < 3
      · refine tf_go hx ftX9_longestAt 1 [true] 62 [some (.ref 32), some (.ref q), some (.int (nI i)), some (.int (tf_on 10 best)), some (.int (nI k))] [] S rfl ⟨by decide, by decide, rfl⟩ ⟨trivial, (tf_ltT (a := (f (224 + 10 * k + 1))) (b := 3) rfl (rfl : (3 : Int32) = nI 3) (by have := hb (224 + 10 * k + 1); omega) (by have := hb (224 + 10 * k + 1); omega) (by have := hb (224 + 10 * k + 1); omega))⟩ ?_
        rw [if_neg (by rintro ⟨h, -⟩; simp at h; omega)] at he
        refine tf_go hx ftX9_longestAt 2 [] 6 [some (.ref 32), some (.ref q), some (.int (nI i)), some (.int (tf_on 10 best)), some (.int ((nI k) + 1))] [] S rfl ⟨by decide, by decide, rfl⟩ trivial ?_
        rw [show ((nI k) + 1) = nI (k + 1) from (tf_add (a := k) (b := 1) rfl (rfl : (1 : Int32) = nI 1))]
        exact ih (k + 1) best (by omega) he hbest
      · refine tf_go hx ftX9_longestAt 1 [false] 26 [some (.ref 32), some (.ref q), some (.int (nI i)), some (.int (tf_on 10 best)), some (.int (nI k))] [] S rfl ⟨by decide, by decide, rfl⟩ ⟨trivial, (tf_ltF (a := (f (224 + 10 * k + 1))) (b := 3) rfl (rfl : (3 : Int32) = nI 3) (by have := hb (224 + 10 * k + 1); omega) (by have := hb (224 + 10 * k + 1); omega) (by have := hb (224 + 10 * k + 1); omega))⟩ ?_
        have ar : tf_rf (tf_GG N) 33 (Int32.toNatClampNeg (nI k)) = 34 + 2 * k := by rw [tf_cl_nI (by omega)]; exact (wdn (show k < 10 by omega)).2.2
        have arn : tf_rf (tf_GG N) 33 (Int32.toNatClampNeg (nI k)) ≠ 0 := by rw [ar]; omega
        refine tf_go hx ftX9_longestAt 4 [] 33 [some (.ref 32), some (.ref q), some (.int (nI i)), some (.int (tf_on 10 best)), some (.int (nI k))] [.ref (tf_rf (tf_GG N) 33 (Int32.toNatClampNeg (nI k)))] S rfl ⟨by decide, by decide, rfl⟩ ⟨⟨trivial, ⟨by first | assumption | rfl | decide | omega | exact Nat.succ_ne_zero _, by first | assumption | rfl | decide | omega | exact Nat.succ_ne_zero _⟩⟩, ⟨by first | assumption | exact Or.inl rfl | exact Or.inr (Or.inl rfl) | exact Or.inr (Or.inr rfl) | omega, by exact tf_in (n := k) (N := 10) rfl (by first | assumption | rfl) (by omega) (by decide), by first | assumption | rfl | decide | omega | exact Nat.succ_ne_zero _⟩⟩ ?_
        rw [ar]
        clear ar arn
        refine tf_go hx ftX9_longestAt 2 [] 35 [some (.ref 32), some (.ref q), some (.int (nI i)), some (.int (tf_on 10 best)), some (.int (nI k))] [.int (nI i), .ref q, .ref (34 + 2 * k)] S rfl ⟨by decide, by decide, rfl⟩ trivial ?_
        refine tf_cS hx ftX9_longestAt (nx := 38) (As := [.ref (34 + 2 * k), .ref q, .int (nI i)]) (rest := []) (st2 := [.int (nI (if tf_s2 f k i = true then 1 else 0))]) (w_standsAt k i hM (tf_wv_w hv hg kw) hb (by omega)) rfl lX9_47 rfl ⟨rfl, by decide, by decide, by decide, rfl, rfl⟩ ?_
        by_cases e2 : tf_s2 f k i = true
        · rw [if_pos e2]
          refine tf_go hx ftX9_longestAt 1 [false] 41 [some (.ref 32), some (.ref q), some (.int (nI i)), some (.int (tf_on 10 best)), some (.int (nI k))] [] S rfl ⟨by decide, by decide, rfl⟩ ⟨trivial, (by decide)⟩ ?_
          by_cases e3 : best < 10
          · rw [show tf_on 10 best = nI best from tf_on_y e3]
            refine tf_go hx ftX9_longestAt 1 [] 42 [some (.ref 32), some (.ref q), some (.int (nI i)), some (.int (nI best)), some (.int (nI k))] [.int (nI best)] S rfl ⟨by decide, by decide, rfl⟩ trivial ?_
            refine tf_go hx ftX9_longestAt 1 [false] 45 [some (.ref 32), some (.ref q), some (.int (nI i)), some (.int (nI best)), some (.int (nI k))] [] S rfl ⟨by decide, by decide, rfl⟩ ⟨trivial, (tf_ltF (a := best) (b := 0) rfl (rfl : (0 : Int32) = nI 0) (by omega) (by omega) (by omega))⟩ ?_
            refine tf_go hx ftX9_longestAt 2 [] 48 [some (.ref 32), some (.ref q), some (.int (nI i)), some (.int (nI best)), some (.int (nI k))] [.int (nI k), .ref 32] S rfl ⟨by decide, by decide, rfl⟩ trivial ?_
            refine tf_cV hx ftX9_longestAt (nx := 51) (As := [.int (nI k)]) (rest := []) (st2 := [.int (nI (tf_sz f k))]) ((by have h := w_lengthOf (N := N) (S := S) (w := k) hv hg hb (Or.inr kw); rw [tf_on_y (show k < 10 by omega)] at h; exact h)) rfl lX9_51 (by first | assumption | rfl | decide) rfl ⟨rfl, by decide, by decide, by decide, rfl, rfl⟩ ?_
            refine tf_go hx ftX9_longestAt 2 [] 53 [some (.ref 32), some (.ref q), some (.int (nI i)), some (.int (nI best)), some (.int (nI k))] [.int (nI best), .ref 32, .int (nI (tf_sz f k))] S rfl ⟨by decide, by decide, rfl⟩ trivial ?_
            refine tf_cV hx ftX9_longestAt (nx := 56) (As := [.int (nI best)]) (rest := [.int (nI (tf_sz f k))]) (st2 := [.int (nI (tf_sz f best)), .int (nI (tf_sz f k))]) ((by have h := w_lengthOf (N := N) (S := S) (w := best) hv hg hb hbest; rw [tf_on_y e3] at h; exact h)) rfl lX9_51 (by first | assumption | rfl | decide) rfl ⟨rfl, by decide, by decide, by decide, rfl, rfl⟩ ?_
            have z1 : tf_sz f k < 10000 := by unfold tf_sz; rw [if_pos (show k < 10 by omega)]; exact hb _
            have z2 : tf_sz f best < 10000 := by unfold tf_sz; rw [if_pos e3]; exact hb _
            by_cases e4 : tf_sz f best < tf_sz f k
            · refine tf_go hx ftX9_longestAt 1 [false] 59 [some (.ref 32), some (.ref q), some (.int (nI i)), some (.int (nI best)), some (.int (nI k))] [] S rfl ⟨by decide, by decide, rfl⟩ ⟨trivial, (tf_leF (a := (tf_sz f k)) (b := (tf_sz f best)) rfl rfl (by have := hb k; have := hb best; omega) (by have := hb k; have := hb best; omega) (by have := hb k; have := hb best; omega))⟩ ?_
              rw [if_pos ⟨by simp; exact ⟨by omega, e2⟩, Or.inr e4⟩] at he
              refine tf_go hx ftX9_longestAt 4 [] 6 [some (.ref 32), some (.ref q), some (.int (nI i)), some (.int (nI k)), some (.int ((nI k) + 1))] [] S rfl ⟨by decide, by decide, rfl⟩ trivial ?_
              rw [show ((nI k) + 1) = nI (k + 1) from (tf_add (a := k) (b := 1) rfl (rfl : (1 : Int32) = nI 1))]
              have h0 := ih (k + 1) k (by omega) he (Or.inr kw)
              rw [tf_on_y (show k < 10 by omega)] at h0
              exact h0
            · refine tf_go hx ftX9_longestAt 1 [true] 62 [some (.ref 32), some (.ref q), some (.int (nI i)), some (.int (nI best)), some (.int (nI k))] [] S rfl ⟨by decide, by decide, rfl⟩ ⟨trivial, (tf_leT (a := (tf_sz f k)) (b := (tf_sz f best)) rfl rfl (by have := hb k; have := hb best; omega) (by have := hb k; have := hb best; omega) (by have := hb k; have := hb best; omega))⟩ ?_
              rw [if_neg (by rintro ⟨-, h | h⟩; omega; exact e4 h)] at he
              refine tf_go hx ftX9_longestAt 2 [] 6 [some (.ref 32), some (.ref q), some (.int (nI i)), some (.int (nI best)), some (.int ((nI k) + 1))] [] S rfl ⟨by decide, by decide, rfl⟩ trivial ?_
              rw [show ((nI k) + 1) = nI (k + 1) from (tf_add (a := k) (b := 1) rfl (rfl : (1 : Int32) = nI 1))]
              have h0 := ih (k + 1) best (by omega) he hbest
              rw [show tf_on 10 best = nI best from tf_on_y e3] at h0
              exact h0
          · rw [tf_on_n e3]
            refine tf_go hx ftX9_longestAt 1 [] 42 [some (.ref 32), some (.ref q), some (.int (nI i)), some (.int (-9)), some (.int (nI k))] [.int (-9)] S rfl ⟨by decide, by decide, rfl⟩ trivial ?_
            refine tf_go hx ftX9_longestAt 1 [true] 59 [some (.ref 32), some (.ref q), some (.int (nI i)), some (.int (-9)), some (.int (nI k))] [] S rfl ⟨by decide, by decide, rfl⟩ ⟨trivial, (by decide)⟩ ?_
            rw [if_pos ⟨by simp; exact ⟨by omega, e2⟩, Or.inl (by omega)⟩] at he
            refine tf_go hx ftX9_longestAt 4 [] 6 [some (.ref 32), some (.ref q), some (.int (nI i)), some (.int (nI k)), some (.int ((nI k) + 1))] [] S rfl ⟨by decide, by decide, rfl⟩ trivial ?_
            rw [show ((nI k) + 1) = nI (k + 1) from (tf_add (a := k) (b := 1) rfl (rfl : (1 : Int32) = nI 1))]
            have h0 := ih (k + 1) k (by omega) he (Or.inr kw)
            rw [tf_on_y (show k < 10 by omega)] at h0
            exact h0
        · rw [if_neg e2]
          refine tf_go hx ftX9_longestAt 1 [true] 62 [some (.ref 32), some (.ref q), some (.int (nI i)), some (.int (tf_on 10 best)), some (.int (nI k))] [] S rfl ⟨by decide, by decide, rfl⟩ ⟨trivial, rfl⟩ ?_
          rw [if_neg (by rintro ⟨h, -⟩; simp at h; exact e2 h.2)] at he
          refine tf_go hx ftX9_longestAt 2 [] 6 [some (.ref 32), some (.ref q), some (.int (nI i)), some (.int (tf_on 10 best)), some (.int ((nI k) + 1))] [] S rfl ⟨by decide, by decide, rfl⟩ trivial ?_
          rw [show ((nI k) + 1) = nI (k + 1) from (tf_add (a := k) (b := 1) rfl (rfl : (1 : Int32) = nI 1))]
          exact ih (k + 1) best (by omega) he hbest
  exact loop (f 366) 0 10 (by omega) rfl (Or.inl rfl)

set_option maxHeartbeats 1000000 in
theorem w_useMore {N : Nat} {S : tf_Sg} {f : Nat → Nat} (w n : Nat) (hv : tf_wv S f) (hg : tf_gd f) (hb : ∀ k, f k < 10000) (e2 : w < f 366) (hn : n ≤ 999) : tf_Fn mX9_useMore 2 0 0 (tf_GG N) S [.ref 32, .int (nI w), .int (nI n)] (tf_GG N) (tf_set S 54 w (nI (if f (224 + 10 * w + 1) + n ≤ 9999 then f (224 + 10 * w + 1) + n else 9999))) (some (.int (nI (if f (224 + 10 * w + 1) + n ≤ 9999 then f (224 + 10 * w + 1) + n else 9999)))) := by
  have g10 := hg.1.2.2.1
  have h366 := hv.1
  refine tf_Fn_of (own := RX9) false ⟨by decide, rfl, by decide⟩ (Nat.le_of_ble_eq_true rfl) trivial (fun x hx hR => ?_)
  show tf_K x 0 0 (tf_GG N) S 0 [some (.ref 32), some (.int (nI w)), some (.int (nI n))] []
  have hw : w = 10 ∨ w < f 366 := Or.inr e2
  have e1 : w < 10 := by omega
  have pv := (hv.2 w e2).2.2
  have b1 := hb (224 + 10 * w + 1)
  refine tf_go hx ftX9_useMore 2 [] 2 [some (.ref 32), some (.int (nI w)), some (.int (nI n))] [.int (nI w), .ref 32] S rfl ⟨by decide, by decide, rfl⟩ trivial ?_
  refine tf_cV hx ftX9_useMore (nx := 5) (As := [.int (nI w)]) (rest := []) (st2 := [.int (nI 0)]) ((by have h := w_noWord (N := N) (S := S) hv hg hb hw; rw [tf_on_y e1, if_pos e1] at h; exact h)) rfl lX9_34 (by first | assumption | rfl | decide) rfl ⟨rfl, by decide, by decide, by decide, rfl, rfl⟩ ?_
  refine tf_go hx ftX9_useMore 1 [true] 11 [some (.ref 32), some (.int (nI w)), some (.int (nI n))] [] S rfl ⟨by decide, by decide, rfl⟩ ⟨trivial, rfl⟩ ?_
  refine tf_go hx ftX9_useMore 7 [] 22 [some (.ref 32), some (.int (nI w)), some (.int (nI n))] [.int (S 54 (Int32.toNatClampNeg (nI w))), .int (nI w), .ref 54] S rfl ⟨by decide, by decide, rfl⟩ ⟨⟨⟨trivial, ⟨by first | assumption | rfl | decide | omega | exact Nat.succ_ne_zero _, by first | assumption | rfl | decide | omega | exact Nat.succ_ne_zero _⟩⟩, ⟨by first | assumption | rfl | decide | omega | exact Nat.succ_ne_zero _, by first | assumption | rfl | decide | omega | exact Nat.succ_ne_zero _⟩⟩, ⟨Or.inl (by first | assumption | rfl | decide | omega | exact Nat.succ_ne_zero _), by exact tf_in (n := w) (N := 10) rfl (by first | assumption | rfl) (by omega) (by decide)⟩⟩ ?_
  rw [show (S 54 (Int32.toNatClampNeg (nI w))) = nI (f (224 + 10 * w + 1)) from (by rw [tf_cl_nI (by omega)]; exact pv)]
  refine tf_go hx ftX9_useMore 3 [] 27 [some (.ref 32), some (.int (nI w)), some (.int (nI n))] [.int 9999, .int ((nI (f (224 + 10 * w + 1))) + (nI n)), .int (nI w), .ref 54] S rfl ⟨by decide, by decide, rfl⟩ trivial ?_
  rw [show ((nI (f (224 + 10 * w + 1))) + (nI n)) = nI ((f (224 + 10 * w + 1)) + n) from (tf_add (a := (f (224 + 10 * w + 1))) (b := n) rfl rfl)]
  refine tf_go hx ftX9_useMore 1 [] 30 [some (.ref 32), some (.int (nI w)), some (.int (nI n))] [.int (if 9999 < (nI ((f (224 + 10 * w + 1)) + n)) then 9999 else (nI ((f (224 + 10 * w + 1)) + n))), .int (nI w), .ref 54] S rfl ⟨by decide, by decide, rfl⟩ trivial ?_
  have mn : (if (9999 : Int32) < nI (f (224 + 10 * w + 1) + n) then (9999 : Int32) else nI (f (224 + 10 * w + 1) + n)) = nI (if f (224 + 10 * w + 1) + n ≤ 9999 then f (224 + 10 * w + 1) + n else 9999) := by
    by_cases q : f (224 + 10 * w + 1) + n ≤ 9999
    · rw [if_pos q, if_neg (show ¬ (9999 : Int32) < nI (f (224 + 10 * w + 1) + n) from tf_ltF (a := 9999) (b := f (224 + 10 * w + 1) + n) rfl rfl q (by omega) (by omega))]
    · rw [if_neg q, if_pos (show (9999 : Int32) < nI (f (224 + 10 * w + 1) + n) from tf_ltT (a := 9999) (b := f (224 + 10 * w + 1) + n) rfl rfl (by omega) (by omega) (by omega))]; rfl
  rw [mn]
  refine tf_go hx ftX9_useMore 1 [] 31 [some (.ref 32), some (.int (nI w)), some (.int (nI n))] [] (tf_set S 54 (Int32.toNatClampNeg (nI w)) (nI (if f (224 + 10 * w + 1) + n ≤ 9999 then f (224 + 10 * w + 1) + n else 9999))) rfl ⟨by decide, by decide, rfl⟩ ⟨trivial, ⟨by first | assumption | rfl | decide | omega | exact Nat.succ_ne_zero _, by exact tf_in (n := w) (N := 10) rfl (by first | assumption | rfl) (by omega) (by decide)⟩⟩ ?_
  rw [show Int32.toNatClampNeg (nI w) = w from tf_cln rfl (by omega)]
  have rd : tf_set S 54 w (nI (if f (224 + 10 * w + 1) + n ≤ 9999 then f (224 + 10 * w + 1) + n else 9999)) 54 (Int32.toNatClampNeg (nI w)) = nI (if f (224 + 10 * w + 1) + n ≤ 9999 then f (224 + 10 * w + 1) + n else 9999) := by rw [tf_cl_nI (by omega)]; exact tf_set_s
  refine tf_go hx ftX9_useMore 4 [] 37 [some (.ref 32), some (.int (nI w)), some (.int (nI n))] [.int ((tf_set S 54 w (nI (if f (224 + 10 * w + 1) + n ≤ 9999 then f (224 + 10 * w + 1) + n else 9999))) 54 (Int32.toNatClampNeg (nI w)))] (tf_set S 54 w (nI (if f (224 + 10 * w + 1) + n ≤ 9999 then f (224 + 10 * w + 1) + n else 9999))) rfl ⟨by decide, by decide, rfl⟩ ⟨⟨trivial, ⟨by first | assumption | rfl | decide | omega | exact Nat.succ_ne_zero _, by first | assumption | rfl | decide | omega | exact Nat.succ_ne_zero _⟩⟩, ⟨Or.inl (by first | assumption | rfl | decide | omega | exact Nat.succ_ne_zero _), by exact tf_in (n := w) (N := 10) rfl (by first | assumption | rfl) (by omega) (by decide)⟩⟩ ?_
  rw [rd]
  exact tf_ret ftX9_useMore hR rfl ⟨by decide, by decide⟩ rfl rfl rfl

set_option maxHeartbeats 1000000 in
theorem w_addFrom {N : Nat} {S : tf_Sg} {f : Nat → Nat} {n : Nat} {T : Nat → Nat} (hv : tf_wv S f) (hg : tf_gd f) (hb : ∀ k, f k < 10000) (h10 : f 366 < 10) (hV : tf_sV (tf_GG N) S 109 48 n (fun j => nI (T j))) (hT : ∀ j, T j < 256) (fv : ∀ k, k < n → (97 ≤ T k ∧ T k ≤ 122) ∨ T k = 60) (hn : n ≤ 8) : tf_Fn mX9_addFrom 3 0 0 (tf_GG N) S [.ref 32, .ref 109] (tf_GG N) (tf_set (tf_set (tf_wr S (34 + 2 * f 366) (35 + 2 * f 366) n (fun j => nI (tf_tv2 (T j)))) 54 (f 366) 0) 32 2 (nI (f 366 + 1))) (some (.int (nI (f 366)))) := by
  have g10 := hg.1.2.2.1
  have h366 := hv.1
  refine tf_Fn_of (own := RX9) false ⟨by decide, rfl, by decide⟩ (Nat.le_of_ble_eq_true rfl) trivial (fun x hx hR => ?_)
  show tf_K x 0 0 (tf_GG N) S 0 [some (.ref 32), some (.ref 109)] []
  have q0 := (wdn (N := N) (show f 366 < 10 by omega))
  obtain ⟨q1, q2, q3⟩ := q0
  refine tf_go hx ftX9_addFrom 3 [] 6 [some (.ref 32), some (.ref 109)] [.int 10, .int (S 32 2)] S rfl ⟨by decide, by decide, rfl⟩ ⟨trivial, (by first | assumption | rfl | decide | omega | exact Nat.succ_ne_zero _)⟩ ?_
  rw [show (S 32 2) = nI (f 366) from h366]
  refine tf_go hx ftX9_addFrom 1 [true] 12 [some (.ref 32), some (.ref 109)] [] S rfl ⟨by decide, by decide, rfl⟩ ⟨trivial, (tf_ltT (a := (f 366)) (b := 10) rfl (rfl : (10 : Int32) = nI 10) (by have := hb 366; omega) (by have := hb 366; omega) (by have := hb 366; omega))⟩ ?_
  have ar : tf_rf (tf_GG N) 33 (Int32.toNatClampNeg (nI (f 366))) = 34 + 2 * f 366 := by rw [tf_cl_nI (by omega)]; exact q3
  have arn : tf_rf (tf_GG N) 33 (Int32.toNatClampNeg (nI (f 366))) ≠ 0 := by rw [ar]; omega
  refine tf_go hx ftX9_addFrom 4 [] 20 [some (.ref 32), some (.ref 109)] [.int (S 32 2), .ref 33] S rfl ⟨by decide, by decide, rfl⟩ ⟨⟨trivial, ⟨by first | assumption | rfl | decide | omega | exact Nat.succ_ne_zero _, by first | assumption | rfl | decide | omega | exact Nat.succ_ne_zero _⟩⟩, (by first | assumption | rfl | decide | omega | exact Nat.succ_ne_zero _)⟩ ?_
  rw [show (S 32 2) = nI (f 366) from h366]
  refine tf_go hx ftX9_addFrom 1 [] 21 [some (.ref 32), some (.ref 109)] [.ref (tf_rf (tf_GG N) 33 (Int32.toNatClampNeg (nI (f 366))))] S rfl ⟨by decide, by decide, rfl⟩ ⟨trivial, ⟨by first | assumption | exact Or.inl rfl | exact Or.inr (Or.inl rfl) | exact Or.inr (Or.inr rfl) | omega, by exact tf_in (n := (f 366)) (N := 10) rfl (by first | assumption | rfl) (by have := hb 366; omega) (by decide), by first | assumption | rfl | decide | omega | exact Nat.succ_ne_zero _⟩⟩ ?_
  rw [ar]
  refine tf_go hx ftX9_addFrom 1 [] 22 [some (.ref 32), some (.ref 109)] [.ref 109, .ref (34 + 2 * f 366)] S rfl ⟨by decide, by decide, rfl⟩ trivial ?_
  refine tf_cS hx ftX9_addFrom (nx := 25) (As := [.ref (34 + 2 * f 366), .ref 109]) (rest := []) (st2 := [.int (nI n)]) ((by have h := r_signsInto (G := (tf_GG N)) (S := S) q1 hV hT fv hn (by omega) (by rw [q2]; omega) (by show 110 ≠ _; omega) (by rw [q2]; show 110 ≠ _; omega); rw [q2] at h; exact h)) rfl lX9_28 rfl ⟨rfl, by decide, by decide, by decide, rfl, rfl⟩ ?_
  have k2 : (tf_wr S (34 + 2 * f 366) (35 + 2 * f 366) n (fun j => nI (tf_tv2 (T j)))) 32 = S 32 := tf_wr_ne (by omega) (by omega)
  have k3 : (tf_wr S (34 + 2 * f 366) (35 + 2 * f 366) n (fun j => nI (tf_tv2 (T j)))) 32 2 = nI (f 366) := by rw [k2]; exact h366
  refine tf_go hx ftX9_addFrom 1 [] 26 [some (.ref 32), some (.ref 109)] [] (tf_wr S (34 + 2 * f 366) (35 + 2 * f 366) n (fun j => nI (tf_tv2 (T j)))) rfl ⟨by decide, by decide, rfl⟩ trivial ?_
  refine tf_go hx ftX9_addFrom 4 [] 34 [some (.ref 32), some (.ref 109)] [.int ((tf_wr S (34 + 2 * f 366) (35 + 2 * f 366) n (fun j => nI (tf_tv2 (T j)))) 32 2), .ref 54] (tf_wr S (34 + 2 * f 366) (35 + 2 * f 366) n (fun j => nI (tf_tv2 (T j)))) rfl ⟨by decide, by decide, rfl⟩ ⟨⟨trivial, ⟨by first | assumption | rfl | decide | omega | exact Nat.succ_ne_zero _, by first | assumption | rfl | decide | omega | exact Nat.succ_ne_zero _⟩⟩, (by first | assumption | rfl | decide | omega | exact Nat.succ_ne_zero _)⟩ ?_
  rw [show ((tf_wr S (34 + 2 * f 366) (35 + 2 * f 366) n (fun j => nI (tf_tv2 (T j)))) 32 2) = nI (f 366) from k3]
  refine tf_go hx ftX9_addFrom 2 [] 36 [some (.ref 32), some (.ref 109)] [] (tf_set (tf_wr S (34 + 2 * f 366) (35 + 2 * f 366) n (fun j => nI (tf_tv2 (T j)))) 54 (Int32.toNatClampNeg (nI (f 366))) 0) rfl ⟨by decide, by decide, rfl⟩ ⟨trivial, ⟨by first | assumption | rfl | decide | omega | exact Nat.succ_ne_zero _, by exact tf_in (n := (f 366)) (N := 10) rfl (by first | assumption | rfl) (by have := hb 366; omega) (by decide)⟩⟩ ?_
  rw [show Int32.toNatClampNeg (nI (f 366)) = (f 366) from tf_cln rfl (by have := hb 366; omega)]
  have k4 : tf_set (tf_wr S (34 + 2 * f 366) (35 + 2 * f 366) n (fun j => nI (tf_tv2 (T j)))) 54 (f 366) 0 32 2 = nI (f 366) := by rw [tf_set_n (by decide)]; exact k3
  refine tf_go hx ftX9_addFrom 3 [] 41 [some (.ref 32), some (.ref 109)] [.int ((tf_set (tf_wr S (34 + 2 * f 366) (35 + 2 * f 366) n (fun j => nI (tf_tv2 (T j)))) 54 (f 366) 0) 32 2), .ref 32] (tf_set (tf_wr S (34 + 2 * f 366) (35 + 2 * f 366) n (fun j => nI (tf_tv2 (T j)))) 54 (f 366) 0) rfl ⟨by decide, by decide, rfl⟩ ⟨trivial, (by first | assumption | rfl | decide | omega | exact Nat.succ_ne_zero _)⟩ ?_
  rw [show ((tf_set (tf_wr S (34 + 2 * f 366) (35 + 2 * f 366) n (fun j => nI (tf_tv2 (T j)))) 54 (f 366) 0) 32 2) = nI (f 366) from k4]
  refine tf_go hx ftX9_addFrom 2 [] 43 [some (.ref 32), some (.ref 109)] [.int ((nI (f 366)) + 1), .ref 32] (tf_set (tf_wr S (34 + 2 * f 366) (35 + 2 * f 366) n (fun j => nI (tf_tv2 (T j)))) 54 (f 366) 0) rfl ⟨by decide, by decide, rfl⟩ trivial ?_
  rw [show ((nI (f 366)) + 1) = nI ((f 366) + 1) from (tf_add (a := (f 366)) (b := 1) rfl (rfl : (1 : Int32) = nI 1))]
  refine tf_go hx ftX9_addFrom 1 [] 46 [some (.ref 32), some (.ref 109)] [] (tf_set (tf_set (tf_wr S (34 + 2 * f 366) (35 + 2 * f 366) n (fun j => nI (tf_tv2 (T j)))) 54 (f 366) 0) 32 2 (nI ((f 366) + 1))) rfl ⟨by decide, by decide, rfl⟩ ⟨trivial, (by first | assumption | rfl | decide | omega | exact Nat.succ_ne_zero _)⟩ ?_
  have k5 : (tf_set (tf_set (tf_wr S (34 + 2 * f 366) (35 + 2 * f 366) n (fun j => nI (tf_tv2 (T j)))) 54 (f 366) 0) 32 2 (nI ((f 366) + 1))) 32 2 = nI (f 366 + 1) := tf_set_s
  refine tf_go hx ftX9_addFrom 2 [] 50 [some (.ref 32), some (.ref 109)] [.int ((tf_set (tf_set (tf_wr S (34 + 2 * f 366) (35 + 2 * f 366) n (fun j => nI (tf_tv2 (T j)))) 54 (f 366) 0) 32 2 (nI ((f 366) + 1))) 32 2)] (tf_set (tf_set (tf_wr S (34 + 2 * f 366) (35 + 2 * f 366) n (fun j => nI (tf_tv2 (T j)))) 54 (f 366) 0) 32 2 (nI ((f 366) + 1))) rfl ⟨by decide, by decide, rfl⟩ ⟨trivial, (by first | assumption | rfl | decide | omega | exact Nat.succ_ne_zero _)⟩ ?_
  rw [show ((tf_set (tf_set (tf_wr S (34 + 2 * f 366) (35 + 2 * f 366) n (fun j => nI (tf_tv2 (T j)))) 54 (f 366) 0) 32 2 (nI ((f 366) + 1))) 32 2) = nI (f 366 + 1) from k5]
  refine tf_go hx ftX9_addFrom 2 [] 52 [some (.ref 32), some (.ref 109)] [.int ((nI (f 366 + 1)) - 1)] (tf_set (tf_set (tf_wr S (34 + 2 * f 366) (35 + 2 * f 366) n (fun j => nI (tf_tv2 (T j)))) 54 (f 366) 0) 32 2 (nI ((f 366) + 1))) rfl ⟨by decide, by decide, rfl⟩ trivial ?_
  rw [show ((nI (f 366 + 1)) - 1) = nI ((f 366 + 1) - 1) from (tf_sub (a := (f 366 + 1)) (b := 1) rfl (rfl : (1 : Int32) = nI 1) (by have := hb 366; omega))]
  exact tf_ret ftX9_addFrom hR rfl ⟨by decide, by decide⟩ rfl rfl (by rw [show f 366 + 1 - 1 = f 366 by omega]; rfl)

