def fX3 : tf_F := [(3, 102, 0), (14, 2, 0), (20, 2, 1), (23, 2, 2), (26, 2, 3)]
set_option maxRecDepth 100000 in
theorem okfX3 : tf_okF RX3 fX3 := by unfold tf_okF; decide +kernel

def tX3_cutFrom : tf_T := [(0, .aload_n 0, 1, 0, 0),
  (1, .getfield 14, 4, 0, 0),
  (4, .invokevirtual 29, 7, 0, 0),
  (7, .aload_n 0, 8, 0, 0),
  (8, .getfield 20, 11, 0, 0),
  (11, .invokevirtual 29, 14, 0, 0),
  (14, .aload_n 0, 15, 0, 0),
  (15, .getfield 23, 18, 0, 0),
  (18, .invokevirtual 29, 21, 0, 0),
  (21, .aload_n 0, 22, 0, 0),
  (22, .getfield 26, 25, 0, 0),
  (25, .invokevirtual 29, 28, 0, 0),
  (28, .iconst 0, 29, 0, 0),
  (29, .istore_n 3, 30, 0, 0),
  (30, .iload_n 3, 31, 0, 0),
  (31, .aload_n 1, 32, 0, 0),
  (32, .invokevirtual 32, 35, 0, 0),
  (35, .if_icmp .ge 74, 38, 109, 0),
  (38, .iload_n 3, 39, 0, 0),
  (39, .aload_n 0, 40, 0, 0),
  (40, .getfield 26, 43, 0, 0),
  (43, .invokevirtual 32, 46, 0, 0),
  (46, .if_icmp .lt 57, 49, 103, 0),
  (49, .aload_n 2, 50, 0, 0),
  (50, .aload_n 1, 51, 0, 0),
  (51, .iload_n 3, 52, 0, 0),
  (52, .invokevirtual 36, 55, 0, 0),
  (55, .istore 4, 57, 0, 0),
  (57, .aload_n 0, 58, 0, 0),
  (58, .getfield 14, 61, 0, 0),
  (61, .iload_n 3, 62, 0, 0),
  (62, .invokevirtual 42, 65, 0, 0),
  (65, .aload_n 0, 66, 0, 0),
  (66, .getfield 20, 69, 0, 0),
  (69, .aload_n 2, 70, 0, 0),
  (70, .iload 4, 72, 0, 0),
  (72, .invokevirtual 45, 75, 0, 0),
  (75, .invokevirtual 42, 78, 0, 0),
  (78, .aload_n 0, 79, 0, 0),
  (79, .getfield 23, 82, 0, 0),
  (82, .iload 4, 84, 0, 0),
  (84, .invokevirtual 42, 87, 0, 0),
  (87, .aload_n 0, 88, 0, 0),
  (88, .aload_n 2, 89, 0, 0),
  (89, .iload 4, 91, 0, 0),
  (91, .invokevirtual 45, 94, 0, 0),
  (94, .aload_n 2, 95, 0, 0),
  (95, .iload 4, 97, 0, 0),
  (97, .invokevirtual 49, 100, 0, 0),
  (100, .invokevirtual 52, 103, 0, 0),
  (103, .iinc 3 1, 106, 0, 1),
  (106, .goto (-76), 109, 30, 0),
  (109, .return_, 110, 0, 0)]
set_option maxRecDepth 100000 in
theorem okX3_cutFrom : tf_okT cX3_cutFrom tX3_cutFrom := by unfold tf_okT; decide +kernel
theorem ftX3_cutFrom : 1 ≤ 4 ∧ tf_okF RX3 fX3 ∧ tf_okT cX3_cutFrom tX3_cutFrom := ⟨by decide, okfX3, okX3_cutFrom⟩
def mX3_cutFrom : tf_M := (yX3_cutFrom, cX3_cutFrom, 5, none)

def tX3_addHundredths : tf_T := [(0, .aload_n 0, 1, 0, 0),
  (1, .getfield 26, 4, 0, 0),
  (4, .bipush 100, 6, 0, 100),
  (6, .invokevirtual 42, 9, 0, 0),
  (9, .iconst 1, 10, 0, 1),
  (10, .istore_n 3, 11, 0, 0),
  (11, .iload_n 3, 12, 0, 0),
  (12, .iload_n 1, 13, 0, 0),
  (13, .if_icmp .ge 17, 16, 30, 0),
  (16, .aload_n 0, 17, 0, 0),
  (17, .getfield 26, 20, 0, 0),
  (20, .iload_n 2, 21, 0, 0),
  (21, .invokevirtual 42, 24, 0, 0),
  (24, .iinc 3 1, 27, 0, 1),
  (27, .goto (-16), 30, 11, 0),
  (30, .return_, 31, 0, 0)]
set_option maxRecDepth 100000 in
theorem okX3_addHundredths : tf_okT cX3_addHundredths tX3_addHundredths := by unfold tf_okT; decide +kernel
theorem ftX3_addHundredths : 1 ≤ 2 ∧ tf_okF RX3 fX3 ∧ tf_okT cX3_addHundredths tX3_addHundredths := ⟨by decide, okfX3, okX3_addHundredths⟩
def mX3_addHundredths : tf_M := (yX3_addHundredths, cX3_addHundredths, 4, none)

def tX3_size : tf_T := [(0, .aload_n 0, 1, 0, 0),
  (1, .getfield 14, 4, 0, 0),
  (4, .invokevirtual 32, 7, 0, 0),
  (7, .ireturn, 8, 0, 0)]
set_option maxRecDepth 100000 in
theorem okX3_size : tf_okT cX3_size tX3_size := by unfold tf_okT; decide +kernel
theorem ftX3_size : 1 ≤ 2 ∧ tf_okF RX3 fX3 ∧ tf_okT cX3_size tX3_size := ⟨by decide, okfX3, okX3_size⟩
def mX3_size : tf_M := (yX3_size, cX3_size, 1, (some .int))

def tX3_beginAt : tf_T := [(0, .aload_n 0, 1, 0, 0),
  (1, .getfield 14, 4, 0, 0),
  (4, .iload_n 1, 5, 0, 0),
  (5, .invokevirtual 56, 8, 0, 0),
  (8, .ireturn, 9, 0, 0)]
set_option maxRecDepth 100000 in
theorem okX3_beginAt : tf_okT cX3_beginAt tX3_beginAt := by unfold tf_okT; decide +kernel
theorem ftX3_beginAt : 1 ≤ 2 ∧ tf_okF RX3 fX3 ∧ tf_okT cX3_beginAt tX3_beginAt := ⟨by decide, okfX3, okX3_beginAt⟩
def mX3_beginAt : tf_M := (yX3_beginAt, cX3_beginAt, 2, (some .int))

def tX3_lengthAt : tf_T := [(0, .aload_n 0, 1, 0, 0),
  (1, .getfield 20, 4, 0, 0),
  (4, .iload_n 1, 5, 0, 0),
  (5, .invokevirtual 56, 8, 0, 0),
  (8, .ireturn, 9, 0, 0)]
set_option maxRecDepth 100000 in
theorem okX3_lengthAt : tf_okT cX3_lengthAt tX3_lengthAt := by unfold tf_okT; decide +kernel
theorem ftX3_lengthAt : 1 ≤ 2 ∧ tf_okF RX3 fX3 ∧ tf_okT cX3_lengthAt tX3_lengthAt := ⟨by decide, okfX3, okX3_lengthAt⟩
def mX3_lengthAt : tf_M := (yX3_lengthAt, cX3_lengthAt, 2, (some .int))

def tX3_wordAt : tf_T := [(0, .aload_n 0, 1, 0, 0),
  (1, .getfield 23, 4, 0, 0),
  (4, .iload_n 1, 5, 0, 0),
  (5, .invokevirtual 56, 8, 0, 0),
  (8, .ireturn, 9, 0, 0)]
set_option maxRecDepth 100000 in
theorem okX3_wordAt : tf_okT cX3_wordAt tX3_wordAt := by unfold tf_okT; decide +kernel
theorem ftX3_wordAt : 1 ≤ 2 ∧ tf_okF RX3 fX3 ∧ tf_okT cX3_wordAt tX3_wordAt := ⟨by decide, okfX3, okX3_wordAt⟩
def mX3_wordAt : tf_M := (yX3_wordAt, cX3_wordAt, 2, (some .int))

def tX3_hundredthsAt : tf_T := [(0, .aload_n 0, 1, 0, 0),
  (1, .getfield 26, 4, 0, 0),
  (4, .iload_n 1, 5, 0, 0),
  (5, .invokevirtual 56, 8, 0, 0),
  (8, .ireturn, 9, 0, 0)]
set_option maxRecDepth 100000 in
theorem okX3_hundredthsAt : tf_okT cX3_hundredthsAt tX3_hundredthsAt := by unfold tf_okT; decide +kernel
theorem ftX3_hundredthsAt : 1 ≤ 2 ∧ tf_okF RX3 fX3 ∧ tf_okT cX3_hundredthsAt tX3_hundredthsAt := ⟨by decide, okfX3, okX3_hundredthsAt⟩
def mX3_hundredthsAt : tf_M := (yX3_hundredthsAt, cX3_hundredthsAt, 2, (some .int))

def tX3_init : tf_T := [(0, .aload_n 0, 1, 0, 0),
  (1, .invokespecial 3, 4, 0, 0),
  (4, .aload_n 0, 5, 0, 0),
  (5, .new 9, 8, 0, 0),
  (8, .dup, 9, 0, 0),
  (9, .bipush 40, 11, 0, 40),
  (11, .invokespecial 11, 14, 0, 0),
  (14, .putfield 14, 17, 0, 0),
  (17, .aload_n 0, 18, 0, 0),
  (18, .new 9, 21, 0, 0),
  (21, .dup, 22, 0, 0),
  (22, .bipush 40, 24, 0, 40),
  (24, .invokespecial 11, 27, 0, 0),
  (27, .putfield 20, 30, 0, 0),
  (30, .aload_n 0, 31, 0, 0),
  (31, .new 9, 34, 0, 0),
  (34, .dup, 35, 0, 0),
  (35, .bipush 40, 37, 0, 40),
  (37, .invokespecial 11, 40, 0, 0),
  (40, .putfield 23, 43, 0, 0),
  (43, .aload_n 0, 44, 0, 0),
  (44, .new 9, 47, 0, 0),
  (47, .dup, 48, 0, 0),
  (48, .bipush 40, 50, 0, 40),
  (50, .invokespecial 11, 53, 0, 0),
  (53, .putfield 26, 56, 0, 0),
  (56, .return_, 57, 0, 0)]
set_option maxRecDepth 100000 in
theorem okX3_init : tf_okT cX3_init tX3_init := by unfold tf_okT; decide +kernel
theorem ftX3_init : 1 ≤ 2 ∧ tf_okF RX3 fX3 ∧ tf_okT cX3_init tX3_init := ⟨by decide, okfX3, okX3_init⟩
def mX3_init : tf_M := (yX3_init, cX3_init, 1, none)

set_option maxRecDepth 100000 in
theorem lX3_11 : tf_okI RX3 11 1 mX5_init := by unfold tf_okI tf_okL; decide +kernel

set_option maxRecDepth 100000 in
theorem lX3_29 : tf_okV RX3 29 0 3 mX5_clear := by unfold tf_okV tf_okL; decide +kernel

set_option maxRecDepth 100000 in
theorem lX3_32 : tf_okV RX3 32 0 3 mX5_size := by unfold tf_okV tf_okL; decide +kernel

set_option maxRecDepth 100000 in
theorem lX3_36 : tf_okV RX3 36 2 6 mX9_longestAt := by unfold tf_okV tf_okL; decide +kernel

set_option maxRecDepth 100000 in
theorem lX3_42 : tf_okV RX3 42 1 3 mX5_add := by unfold tf_okV tf_okL; decide +kernel

set_option maxRecDepth 100000 in
theorem lX3_45 : tf_okV RX3 45 1 6 mX9_lengthOf := by unfold tf_okV tf_okL; decide +kernel

set_option maxRecDepth 100000 in
theorem lX3_49 : tf_okV RX3 49 1 6 mX9_hundredthsOf := by unfold tf_okV tf_okL; decide +kernel

set_option maxRecDepth 100000 in
theorem lX3_52 : tf_okV RX3 52 2 2 mX3_addHundredths := by unfold tf_okV tf_okL; decide +kernel

set_option maxRecDepth 100000 in
theorem lX3_56 : tf_okV RX3 56 1 3 mX5_at := by unfold tf_okV tf_okL; decide +kernel

/-! PIECES: where each begins; the hundredths of each place -/
def tf_ps (f : Nat → Nat) : Nat → Nat
  | 0 => 0
  | j + 1 => tf_ps f j + tf_sz f (tf_wd f (tf_ps f j))
theorem tf_ps_s {f : Nat → Nat} {j : Nat} : tf_ps f (j + 1) = tf_ps f j + tf_sz f (tf_wd f (tf_ps f j)) := rfl
def tf_hg (f : Nat → Nat) (i : Nat) : Nat → Nat → Nat
  | 0, _ => 100
  | m + 1, a => if i = a then 100 else if i < a + tf_sz f (tf_wd f a) then tf_pt f (tf_wd f a) else tf_hg f i m (a + tf_sz f (tf_wd f a))
theorem tf_hg_s {f : Nat → Nat} {i m a : Nat} : tf_hg f i (m + 1) a = if i = a then 100 else if i < a + tf_sz f (tf_wd f a) then tf_pt f (tf_wd f a) else tf_hg f i m (a + tf_sz f (tf_wd f a)) := rfl
def tf_hu (f : Nat → Nat) (i : Nat) : Nat := tf_hg f i 41 0
theorem tf_hu_j {f : Nat → Nat} (hg : tf_gd f) (i : Nat) : ∀ j, j ≤ 41 → tf_ps f j ≤ i → tf_hu f i = tf_hg f i (41 - j) (tf_ps f j)
  | 0, _, _ => rfl
  | j + 1, h1, h2 => by
    rw [tf_ps_s] at h2 ⊢
    have h3 := (tf_sz_ge hg (tf_ps f j)).1
    rw [tf_hu_j hg i j (by omega) (by omega), show 41 - j = (41 - (j + 1)) + 1 by omega, tf_hg_s, if_neg (by omega), if_neg (by omega)]
theorem tf_hu_at {f : Nat → Nat} (hg : tf_gd f) {i j : Nat} (hj : j ≤ 40) (h1 : tf_ps f j ≤ i) (h2 : i < tf_ps f j + tf_sz f (tf_wd f (tf_ps f j))) : tf_hu f i = if i = tf_ps f j then 100 else tf_pt f (tf_wd f (tf_ps f j)) := by
  rw [tf_hu_j hg i j (by omega) h1, show 41 - j = (40 - j) + 1 by omega, tf_hg_s, if_pos h2]
theorem tf_ps_ge {f : Nat → Nat} (hg : tf_gd f) : ∀ j, j ≤ tf_ps f j
  | 0 => Nat.le_refl _
  | j + 1 => by
    have h := tf_ps_ge hg j
    have h3 := (tf_sz_ge hg (tf_ps f j)).1
    rw [tf_ps_s]
    omega
theorem tf_np_ps {f : Nat → Nat} (hg : tf_gd f) : ∀ j, j ≤ 40 → (∀ i, i < j → tf_ps f i < f 364) → tf_np f 40 0 = j + tf_np f (40 - j) (tf_ps f j)
  | 0, _, _ => (Nat.zero_add _).symm
  | j + 1, h1, h2 => by
    rw [tf_np_ps hg j (by omega) (fun i hi => h2 i (by omega)), show 40 - j = (40 - (j + 1)) + 1 by omega, tf_np_s, if_pos (h2 j (by omega)), tf_ps_s]
    omega
theorem tf_np_end {f : Nat → Nat} {m a : Nat} (h : ¬ a < f 364) : tf_np f m a = 0 := by
  cases m with
  | zero => rfl
  | succ m => rw [tf_np_s, if_neg h]
/-- the number of PIECES: the first whose begin is the end -/
theorem tf_np_eq {f : Nat → Nat} (hg : tf_gd f) {j : Nat} (h2 : ∀ i, i < j → tf_ps f i < f 364) (h3 : ¬ tf_ps f j < f 364) : tf_np f 40 0 = j := by
  have g := hg.1.1
  have hj : j ≤ 40 := by
    cases j with
    | zero => omega
    | succ j => have := h2 j (by omega); have := tf_ps_ge hg j; omega
  rw [tf_np_ps hg j hj h2, tf_np_end h3]
  omega
theorem tf_pb_ps {f : Nat → Nat} (hg : tf_gd f) (i : Int32) : ∀ j, j ≤ 40 → (∀ r, r < j → tf_ps f r < f 364 ∧ ¬ nI r = i) → tf_pb f i 40 0 0 = tf_pb f i (40 - j) (tf_ps f j) j
  | 0, _, _ => rfl
  | j + 1, h1, h2 => by
    rw [tf_pb_ps hg i j (by omega) (fun r hr => h2 r (by omega)), show 40 - j = (40 - (j + 1)) + 1 by omega, tf_pb_s, if_pos (h2 j (by omega)).1, if_neg (h2 j (by omega)).2, tf_ps_s]
/-- which PIECE is told -/
theorem tf_pa_in {f : Nat → Nat} (hg : tf_gd f) {j : Nat} (h2 : ∀ r, r ≤ j → tf_ps f r < f 364) : tf_pa f (nI j) = tf_ps f j := by
  have g := hg.1.1
  have hj : j < 40 := by have := h2 j (Nat.le_refl _); have := tf_ps_ge hg j; omega
  unfold tf_pa
  rw [tf_pb_ps hg (nI j) j (by omega) (fun r hr => ⟨h2 r (by omega), fun e => by have := (nI_eq (by omega) (by omega)).mp e; omega⟩), show 40 - j = (40 - (j + 1)) + 1 by omega, tf_pb_s, if_pos (h2 j (Nat.le_refl _)), if_pos rfl]
theorem tf_pa_out {f : Nat → Nat} (hg : tf_gd f) {i : Int32} {j : Nat} (h2 : ∀ r, r < j → tf_ps f r < f 364 ∧ ¬ nI r = i) (h3 : ¬ tf_ps f j < f 364) : tf_pa f i = 40 := by
  have g := hg.1.1
  have hj : j ≤ 40 := by
    cases j with
    | zero => omega
    | succ j => have := (h2 j (by omega)).1; have := tf_ps_ge hg j; omega
  unfold tf_pa
  rw [tf_pb_ps hg i j hj h2]
  cases 40 - j with
  | zero => rfl
  | succ m => rw [tf_pb_s, if_neg h3]
/-! the rows of the PIECES -/
theorem tf_wr_set {S : tf_Sg} {o a n x k : Nat} {f : Nat → Int32} {v : Int32} (h1 : x ≠ o) (h2 : x ≠ a) : tf_set (tf_wr S o a n f) x k v = tf_wr (tf_set S x k v) o a n f := by
  funext y j
  show (if y = x ∧ j = k then v else if y = a then (if j < n then f j else S a j) else if y = o ∧ j = 1 then nI n else S y j) = (if y = a then (if j < n then f j else (if a = x ∧ j = k then v else S a j)) else if y = o ∧ j = 1 then nI n else if y = x ∧ j = k then v else S y j)
  by_cases hy : y = x ∧ j = k
  · rw [if_pos hy, if_neg (show ¬ y = a from fun q => h2 (hy.1.symm.trans q)), if_neg (show ¬ (y = o ∧ j = 1) from fun q => h1 (hy.1.symm.trans q.1)), if_pos hy]
  · rw [if_neg hy, if_neg (show ¬ (a = x ∧ j = k) from fun q => h2 q.1.symm), if_neg hy]
def tf_pk (S : tf_Sg) (f : Nat → Nat) (a b c e : Nat) : tf_Sg := tf_wr (tf_wr (tf_wr (tf_wr S 112 113 a (fun j => nI (tf_ps f j))) 114 115 b (fun j => nI (tf_sz f (tf_wd f (tf_ps f j))))) 116 117 c (fun j => tf_on 10 (tf_wd f (tf_ps f j)))) 118 119 e (fun j => nI (tf_hu f j))
theorem tf_pk_0 {S : tf_Sg} {f : Nat → Nat} : tf_set (tf_set (tf_set (tf_set S 112 1 0) 114 1 0) 116 1 0) 118 1 0 = tf_pk S f 0 0 0 0 := by
  unfold tf_pk
  rw [tf_wr_0.resolve_right (by decide), tf_wr_0.resolve_right (by decide), tf_wr_0.resolve_right (by decide), tf_wr_0.resolve_right (by decide)]
theorem tf_pk_fr {S : tf_Sg} {f : Nat → Nat} {a b c e x : Nat} (h : x < 112 ∨ 119 < x) : tf_pk S f a b c e x = S x := by
  unfold tf_pk
  rw [tf_wr_ne (by omega) (by omega), tf_wr_ne (by omega) (by omega), tf_wr_ne (by omega) (by omega), tf_wr_ne (by omega) (by omega)]
theorem tf_pk_1 {N : Nat} {S : tf_Sg} {f : Nat → Nat} {a b c e : Nat} (h : a ≤ 40) : tf_sV (tf_GG N) (tf_pk S f a b c e) 112 40 a (fun j => nI (tf_ps f j)) := by
  refine ⟨se112, ?_, h, fun j hj => ?_⟩
  · unfold tf_pk
    rw [tf_wr_ne (by decide) (by decide), tf_wr_ne (by decide) (by decide), tf_wr_ne (by decide) (by decide), tf_wr_o (by decide)]
  · show tf_pk S f a b c e 113 j = _
    unfold tf_pk
    rw [tf_wr_ne (by decide) (by decide), tf_wr_ne (by decide) (by decide), tf_wr_ne (by decide) (by decide), tf_wr_a hj]
theorem tf_pk_2 {N : Nat} {S : tf_Sg} {f : Nat → Nat} {a b c e : Nat} (h : b ≤ 40) : tf_sV (tf_GG N) (tf_pk S f a b c e) 114 40 b (fun j => nI (tf_sz f (tf_wd f (tf_ps f j)))) := by
  refine ⟨se114, ?_, h, fun j hj => ?_⟩
  · unfold tf_pk
    rw [tf_wr_ne (by decide) (by decide), tf_wr_ne (by decide) (by decide), tf_wr_o (by decide)]
  · show tf_pk S f a b c e 115 j = _
    unfold tf_pk
    rw [tf_wr_ne (by decide) (by decide), tf_wr_ne (by decide) (by decide), tf_wr_a hj]
theorem tf_pk_3 {N : Nat} {S : tf_Sg} {f : Nat → Nat} {a b c e : Nat} (h : c ≤ 40) : tf_sV (tf_GG N) (tf_pk S f a b c e) 116 40 c (fun j => tf_on 10 (tf_wd f (tf_ps f j))) := by
  refine ⟨se116, ?_, h, fun j hj => ?_⟩
  · unfold tf_pk
    rw [tf_wr_ne (by decide) (by decide), tf_wr_o (by decide)]
  · show tf_pk S f a b c e 117 j = _
    unfold tf_pk
    rw [tf_wr_ne (by decide) (by decide), tf_wr_a hj]
theorem tf_pk_4 {N : Nat} {S : tf_Sg} {f : Nat → Nat} {a b c e : Nat} (h : e ≤ 40) : tf_sV (tf_GG N) (tf_pk S f a b c e) 118 40 e (fun j => nI (tf_hu f j)) := by
  refine ⟨se118, ?_, h, fun j hj => ?_⟩
  · unfold tf_pk
    rw [tf_wr_o (by decide)]
  · show tf_pk S f a b c e 119 j = _
    unfold tf_pk
    rw [tf_wr_a hj]
theorem tf_pk_a4 {S : tf_Sg} {f : Nat → Nat} {a b c e : Nat} : tf_ap (tf_pk S f a b c e) 118 119 e (nI (tf_hu f e)) = tf_pk S f a b c (e + 1) := by
  unfold tf_ap tf_pk
  exact tf_wr_s (f := fun j => nI (tf_hu f j)) (by decide)
theorem tf_pk_a3 {S : tf_Sg} {f : Nat → Nat} {a b c e : Nat} : tf_ap (tf_pk S f a b c e) 116 117 c (tf_on 10 (tf_wd f (tf_ps f c))) = tf_pk S f a b (c + 1) e := by
  unfold tf_ap tf_pk
  rw [tf_wr_set (by decide) (by decide), tf_wr_set (by decide) (by decide)]
  rw [← tf_wr_s (S := tf_wr (tf_wr S 112 113 a (fun j => nI (tf_ps f j))) 114 115 b (fun j => nI (tf_sz f (tf_wd f (tf_ps f j))))) (o := 116) (a := 117) (n := c) (f := fun j => tf_on 10 (tf_wd f (tf_ps f j))) (by decide)]
theorem tf_pk_a2 {S : tf_Sg} {f : Nat → Nat} {a b c e : Nat} : tf_ap (tf_pk S f a b c e) 114 115 b (nI (tf_sz f (tf_wd f (tf_ps f b)))) = tf_pk S f a (b + 1) c e := by
  unfold tf_ap tf_pk
  rw [tf_wr_set (by decide) (by decide), tf_wr_set (by decide) (by decide), tf_wr_set (by decide) (by decide), tf_wr_set (by decide) (by decide)]
  rw [← tf_wr_s (S := tf_wr S 112 113 a (fun j => nI (tf_ps f j))) (o := 114) (a := 115) (n := b) (f := fun j => nI (tf_sz f (tf_wd f (tf_ps f j)))) (by decide)]
theorem tf_pk_a1 {S : tf_Sg} {f : Nat → Nat} {a b c e : Nat} : tf_ap (tf_pk S f a b c e) 112 113 a (nI (tf_ps f a)) = tf_pk S f (a + 1) b c e := by
  unfold tf_ap tf_pk
  rw [tf_wr_set (by decide) (by decide), tf_wr_set (by decide) (by decide), tf_wr_set (by decide) (by decide), tf_wr_set (by decide) (by decide), tf_wr_set (by decide) (by decide), tf_wr_set (by decide) (by decide)]
  rw [← tf_wr_s (S := S) (o := 112) (a := 113) (n := a) (f := fun j => nI (tf_ps f j)) (by decide)]
theorem v_pk1 {N : Nat} {S : tf_Sg} {f : Nat → Nat} {a b c e : Nat} (h : a < 40) : tf_Fn mX5_add 1 0 0 (tf_GG N) (tf_pk S f a b c e) [.ref 112, .int (nI (tf_ps f a))] (tf_GG N) (tf_pk S f (a + 1) b c e) none := by
  rw [← tf_pk_a1]
  exact v_add (tf_pk_1 (by omega)) _ h
theorem v_pk2 {N : Nat} {S : tf_Sg} {f : Nat → Nat} {a b c e : Nat} (h : b < 40) : tf_Fn mX5_add 1 0 0 (tf_GG N) (tf_pk S f a b c e) [.ref 114, .int (nI (tf_sz f (tf_wd f (tf_ps f b))))] (tf_GG N) (tf_pk S f a (b + 1) c e) none := by
  rw [← tf_pk_a2]
  exact v_add (tf_pk_2 (by omega)) _ h
theorem v_pk3 {N : Nat} {S : tf_Sg} {f : Nat → Nat} {a b c e : Nat} (h : c < 40) : tf_Fn mX5_add 1 0 0 (tf_GG N) (tf_pk S f a b c e) [.ref 116, .int (tf_on 10 (tf_wd f (tf_ps f c)))] (tf_GG N) (tf_pk S f a b (c + 1) e) none := by
  rw [← tf_pk_a3]
  exact v_add (tf_pk_3 (by omega)) _ h
theorem v_pk4 {N : Nat} {S : tf_Sg} {f : Nat → Nat} {a b c e : Nat} (h : e < 40) : tf_Fn mX5_add 1 0 0 (tf_GG N) (tf_pk S f a b c e) [.ref 118, .int (nI (tf_hu f e))] (tf_GG N) (tf_pk S f a b c (e + 1)) none := by
  rw [← tf_pk_a4]
  exact v_add (tf_pk_4 (by omega)) _ h
theorem tf_wv_fr {S S' : tf_Sg} {f : Nat → Nat} (h : tf_wv S f) (hg : tf_gd f) (hS : ∀ a, 32 ≤ a → a ≤ 54 → S' a = S a) : tf_wv S' f := by
  have g := hg.1.2.2.1
  refine ⟨by rw [hS 32 (by omega) (by omega)]; exact h.1, fun w hw => ?_⟩
  obtain ⟨q1, q2, q3⟩ := h.2 w hw
  rw [hS _ (by omega) (by omega), hS _ (by omega) (by omega), hS _ (by omega) (by omega)]
  exact ⟨q1, q2, q3⟩

set_option maxHeartbeats 1000000 in
theorem q_addH {N : Nat} {S : tf_Sg} {f : Nat → Nat} {a b c j : Nat} (hg : tf_gd f) (hj : j ≤ 40) (he : tf_ps f (j + 1) ≤ 40) : tf_Fn mX3_addHundredths 2 0 0 (tf_GG N) (tf_pk S f a b c (tf_ps f j)) [.ref 111, .int (nI (tf_sz f (tf_wd f (tf_ps f j)))), .int (nI (tf_pt f (tf_wd f (tf_ps f j))))] (tf_GG N) (tf_pk S f a b c (tf_ps f (j + 1))) none := by
  refine tf_Fn_of (own := RX3) false ⟨by decide, rfl, by decide⟩ (Nat.le_of_ble_eq_true rfl) trivial (fun x hx hR => ?_)
  show tf_K x 0 0 (tf_GG N) (tf_pk S f a b c (tf_ps f j)) 0 [some (.ref 111), some (.int (nI (tf_sz f (tf_wd f (tf_ps f j))))), some (.int (nI (tf_pt f (tf_wd f (tf_ps f j))))), none] []
  have s1 := tf_sz_ge hg (tf_ps f j)
  have hl := tf_hu_at hg hj (Nat.le_refl _) (show tf_ps f j < tf_ps f j + tf_sz f (tf_wd f (tf_ps f j)) by omega)
  rw [if_pos rfl] at hl
  have hh : ∀ k, 1 ≤ k → k < tf_sz f (tf_wd f (tf_ps f j)) → tf_hu f (tf_ps f j + k) = tf_pt f (tf_wd f (tf_ps f j)) := fun k h1 h2 => by rw [tf_hu_at hg hj (by omega) (by omega), if_neg (by omega)]
  have ps := tf_ps_s (f := f) (j := j)
  have t118 : tf_tg (tf_GG N) 118 = 3 := rfl
  refine tf_go hx ftX3_addHundredths 3 [] 6 [some (.ref 111), some (.int (nI (tf_sz f (tf_wd f (tf_ps f j))))), some (.int (nI (tf_pt f (tf_wd f (tf_ps f j))))), none] [.int 100, .ref 118] (tf_pk S f a b c (tf_ps f j)) rfl ⟨by decide, by decide, rfl⟩ ⟨trivial, ⟨by first | assumption | rfl | decide | omega | exact Nat.succ_ne_zero _, by first | assumption | rfl | decide | omega | exact Nat.succ_ne_zero _⟩⟩ ?_
  refine tf_cV hx ftX3_addHundredths (nx := 9) (As := [.int 100]) (rest := []) (st2 := []) ((by have h := v_pk4 (N := N) (S := S) (f := f) (a := a) (b := b) (c := c) (e := tf_ps f j) (by omega); rw [hl] at h; exact h)) rfl lX3_42 (by first | assumption | rfl | decide) rfl ⟨rfl, by decide, by decide, by decide, rfl, rfl⟩ ?_
  refine tf_go hx ftX3_addHundredths 2 [] 11 [some (.ref 111), some (.int (nI (tf_sz f (tf_wd f (tf_ps f j))))), some (.int (nI (tf_pt f (tf_wd f (tf_ps f j))))), some (.int 1)] [] (tf_pk S f a b c (tf_ps f j + 1)) rfl ⟨by decide, by decide, rfl⟩ trivial ?_
  have loop : ∀ (m k : Nat), k + m = tf_sz f (tf_wd f (tf_ps f j)) → (1 ≤ k) → tf_K x 0 0 (tf_GG N) (tf_pk S f a b c (tf_ps f j + k)) 11 [some (.ref 111), some (.int (nI (tf_sz f (tf_wd f (tf_ps f j))))), some (.int (nI (tf_pt f (tf_wd f (tf_ps f j))))), some (.int (nI k))] [] := by
    intro m
    induction m with
    | zero =>
      intro k hk hk1
      refine tf_go hx ftX3_addHundredths 2 [] 13 [some (.ref 111), some (.int (nI (tf_sz f (tf_wd f (tf_ps f j))))), some (.int (nI (tf_pt f (tf_wd f (tf_ps f j))))), some (.int (nI k))] [.int (nI (tf_sz f (tf_wd f (tf_ps f j)))), .int (nI k)] (tf_pk S f a b c (tf_ps f j + k)) rfl ⟨by decide, by decide, rfl⟩ trivial ?_
      refine tf_go hx ftX3_addHundredths 1 [true] 30 [some (.ref 111), some (.int (nI (tf_sz f (tf_wd f (tf_ps f j))))), some (.int (nI (tf_pt f (tf_wd f (tf_ps f j))))), some (.int (nI k))] [] (tf_pk S f a b c (tf_ps f j + k)) rfl ⟨by decide, by decide, rfl⟩ ⟨trivial, (tf_leT (a := (tf_sz f (tf_wd f (tf_ps f j)))) (b := k) rfl rfl (by omega) (by omega) (by omega))⟩ ?_
      exact tf_ret ftX3_addHundredths hR rfl ⟨by decide, by decide⟩ rfl (by rw [show k = tf_sz f (tf_wd f (tf_ps f j)) by omega, ps]) rfl
    | succ m ih =>
      intro k hk hk1
      refine tf_go hx ftX3_addHundredths 2 [] 13 [some (.ref 111), some (.int (nI (tf_sz f (tf_wd f (tf_ps f j))))), some (.int (nI (tf_pt f (tf_wd f (tf_ps f j))))), some (.int (nI k))] [.int (nI (tf_sz f (tf_wd f (tf_ps f j)))), .int (nI k)] (tf_pk S f a b c (tf_ps f j + k)) rfl ⟨by decide, by decide, rfl⟩ trivial ?_
      refine tf_go hx ftX3_addHundredths 1 [false] 16 [some (.ref 111), some (.int (nI (tf_sz f (tf_wd f (tf_ps f j))))), some (.int (nI (tf_pt f (tf_wd f (tf_ps f j))))), some (.int (nI k))] [] (tf_pk S f a b c (tf_ps f j + k)) rfl ⟨by decide, by decide, rfl⟩ ⟨trivial, (tf_leF (a := (tf_sz f (tf_wd f (tf_ps f j)))) (b := k) rfl rfl (by omega) (by omega) (by omega))⟩ ?_
      refine tf_go hx ftX3_addHundredths 3 [] 21 [some (.ref 111), some (.int (nI (tf_sz f (tf_wd f (tf_ps f j))))), some (.int (nI (tf_pt f (tf_wd f (tf_ps f j))))), some (.int (nI k))] [.int (nI (tf_pt f (tf_wd f (tf_ps f j)))), .ref 118] (tf_pk S f a b c (tf_ps f j + k)) rfl ⟨by decide, by decide, rfl⟩ ⟨trivial, ⟨by first | assumption | rfl | decide | omega | exact Nat.succ_ne_zero _, by first | assumption | rfl | decide | omega | exact Nat.succ_ne_zero _⟩⟩ ?_
      refine tf_cV hx ftX3_addHundredths (nx := 24) (As := [.int (nI (tf_pt f (tf_wd f (tf_ps f j))))]) (rest := []) (st2 := []) ((by have h := v_pk4 (N := N) (S := S) (f := f) (a := a) (b := b) (c := c) (e := tf_ps f j + k) (by omega); rw [hh k hk1 (by omega)] at h; exact h)) rfl lX3_42 (by first | assumption | rfl | decide) rfl ⟨rfl, by decide, by decide, by decide, rfl, rfl⟩ ?_
      refine tf_go hx ftX3_addHundredths 2 [] 11 [some (.ref 111), some (.int (nI (tf_sz f (tf_wd f (tf_ps f j))))), some (.int (nI (tf_pt f (tf_wd f (tf_ps f j))))), some (.int ((nI k) + 1))] [] (tf_pk S f a b c (tf_ps f j + (k + 1))) rfl ⟨by decide, by decide, rfl⟩ trivial ?_
      rw [show ((nI k) + 1) = nI (k + 1) from (tf_add (a := k) (b := 1) rfl (rfl : (1 : Int32) = nI 1))]
      exact ih (k + 1) (by omega) (by omega)
  exact loop (tf_sz f (tf_wd f (tf_ps f j)) - 1) 1 (by omega) (by omega)

set_option maxHeartbeats 1000000 in
theorem q_cut {N : Nat} {S : tf_Sg} {f : Nat → Nat} (hv : tf_wv S f) (hg : tf_gd f) (hb : ∀ k, f k < 10000) (hM : tf_sV (tf_GG N) S 28 40 (f 364) (fun j => nI (f (144 + j)))) : tf_Fn mX3_cutFrom 4 0 0 (tf_GG N) S [.ref 111, .ref 28, .ref 32] (tf_GG N) (tf_pk S f (tf_np f 40 0) (tf_np f 40 0) (tf_np f 40 0) (f 364)) none := by
  refine tf_Fn_of (own := RX3) false ⟨by decide, rfl, by decide⟩ (Nat.le_of_ble_eq_true rfl) trivial (fun x hx hR => ?_)
  show tf_K x 0 0 (tf_GG N) S 0 [some (.ref 111), some (.ref 28), some (.ref 32), none, none] []
  refine tf_go hx ftX3_cutFrom 2 [] 4 [some (.ref 111), some (.ref 28), some (.ref 32), none, none] [.ref 112] S rfl ⟨by decide, by decide, rfl⟩ ⟨trivial, ⟨by first | assumption | rfl | decide | omega | exact Nat.succ_ne_zero _, by first | assumption | rfl | decide | omega | exact Nat.succ_ne_zero _⟩⟩ ?_
  refine tf_cV hx ftX3_cutFrom (nx := 7) (As := []) (rest := []) (st2 := []) (c_clear rfl) rfl lX3_29 (by first | assumption | rfl | decide) rfl ⟨rfl, by decide, by decide, by decide, rfl, rfl⟩ ?_
  refine tf_go hx ftX3_cutFrom 2 [] 11 [some (.ref 111), some (.ref 28), some (.ref 32), none, none] [.ref 114] (tf_set S 112 1 0) rfl ⟨by decide, by decide, rfl⟩ ⟨trivial, ⟨by first | assumption | rfl | decide | omega | exact Nat.succ_ne_zero _, by first | assumption | rfl | decide | omega | exact Nat.succ_ne_zero _⟩⟩ ?_
  refine tf_cV hx ftX3_cutFrom (nx := 14) (As := []) (rest := []) (st2 := []) (c_clear rfl) rfl lX3_29 (by first | assumption | rfl | decide) rfl ⟨rfl, by decide, by decide, by decide, rfl, rfl⟩ ?_
  refine tf_go hx ftX3_cutFrom 2 [] 18 [some (.ref 111), some (.ref 28), some (.ref 32), none, none] [.ref 116] (tf_set (tf_set S 112 1 0) 114 1 0) rfl ⟨by decide, by decide, rfl⟩ ⟨trivial, ⟨by first | assumption | rfl | decide | omega | exact Nat.succ_ne_zero _, by first | assumption | rfl | decide | omega | exact Nat.succ_ne_zero _⟩⟩ ?_
  refine tf_cV hx ftX3_cutFrom (nx := 21) (As := []) (rest := []) (st2 := []) (c_clear rfl) rfl lX3_29 (by first | assumption | rfl | decide) rfl ⟨rfl, by decide, by decide, by decide, rfl, rfl⟩ ?_
  refine tf_go hx ftX3_cutFrom 2 [] 25 [some (.ref 111), some (.ref 28), some (.ref 32), none, none] [.ref 118] (tf_set (tf_set (tf_set S 112 1 0) 114 1 0) 116 1 0) rfl ⟨by decide, by decide, rfl⟩ ⟨trivial, ⟨by first | assumption | rfl | decide | omega | exact Nat.succ_ne_zero _, by first | assumption | rfl | decide | omega | exact Nat.succ_ne_zero _⟩⟩ ?_
  refine tf_cV hx ftX3_cutFrom (nx := 28) (As := []) (rest := []) (st2 := []) (c_clear rfl) rfl lX3_29 (by first | assumption | rfl | decide) rfl ⟨rfl, by decide, by decide, by decide, rfl, rfl⟩ ?_
  refine tf_go hx ftX3_cutFrom 2 [] 30 [some (.ref 111), some (.ref 28), some (.ref 32), some (.int 0), none] [] (tf_set (tf_set (tf_set (tf_set S 112 1 0) 114 1 0) 116 1 0) 118 1 0) rfl ⟨by decide, by decide, rfl⟩ trivial ?_
  rw [tf_pk_0 (f := f)]
  have loop : ∀ (m k : Nat) (j : Nat), k + m = f 364 → (k ≤ tf_ps f j) → (tf_ps f j ≤ f 364) → (∀ i, i < j → tf_ps f i < f 364) → tf_K x 0 0 (tf_GG N) (tf_pk S f j j j (tf_ps f j)) 30 [some (.ref 111), some (.ref 28), some (.ref 32), some (.int (nI k)), none] [] := by
    intro m
    induction m with
    | zero =>
      intro k j hk hkj hle hlt
      have m40 := hM.2.2.1
      have jle := tf_ps_ge hg j
      have hv2 : tf_wv (tf_pk S f j j j (tf_ps f j)) f := tf_wv_fr hv hg (fun a h1 h2 => tf_pk_fr (by omega))
      have hM2 : tf_sV (tf_GG N) (tf_pk S f j j j (tf_ps f j)) 28 40 (f 364) (fun j => nI (f (144 + j))) := tf_sV_fr hM (tf_pk_fr (by decide)) (tf_pk_fr (by show 29 < 112 ∨ 119 < 29; decide))
      refine tf_go hx ftX3_cutFrom 2 [] 32 [some (.ref 111), some (.ref 28), some (.ref 32), some (.int (nI k)), none] [.ref 28, .int (nI k)] (tf_pk S f j j j (tf_ps f j)) rfl ⟨by decide, by decide, rfl⟩ trivial ?_
      refine tf_cV hx ftX3_cutFrom (nx := 35) (As := []) (rest := [.int (nI k)]) (st2 := [.int (nI (f 364)), .int (nI k)]) (v_size hM2) rfl lX3_32 (by first | assumption | rfl | decide) rfl ⟨rfl, by decide, by decide, by decide, rfl, rfl⟩ ?_
      refine tf_go hx ftX3_cutFrom 1 [true] 109 [some (.ref 111), some (.ref 28), some (.ref 32), some (.int (nI k)), none] [] (tf_pk S f j j j (tf_ps f j)) rfl ⟨by decide, by decide, rfl⟩ ⟨trivial, (tf_leT (a := (f 364)) (b := k) rfl rfl (by omega) (by omega) (by omega))⟩ ?_
      exact tf_ret ftX3_cutFrom hR rfl ⟨by decide, by decide⟩ rfl (by rw [tf_np_eq hg hlt (by omega), show tf_ps f j = f 364 by omega]) rfl
    | succ m ih =>
      intro k j hk hkj hle hlt
      have m40 := hM.2.2.1
      have jle := tf_ps_ge hg j
      have hv2 : tf_wv (tf_pk S f j j j (tf_ps f j)) f := tf_wv_fr hv hg (fun a h1 h2 => tf_pk_fr (by omega))
      have hM2 : tf_sV (tf_GG N) (tf_pk S f j j j (tf_ps f j)) 28 40 (f 364) (fun j => nI (f (144 + j))) := tf_sV_fr hM (tf_pk_fr (by decide)) (tf_pk_fr (by show 29 < 112 ∨ 119 < 29; decide))
      refine tf_go hx ftX3_cutFrom 2 [] 32 [some (.ref 111), some (.ref 28), some (.ref 32), some (.int (nI k)), none] [.ref 28, .int (nI k)] (tf_pk S f j j j (tf_ps f j)) rfl ⟨by decide, by decide, rfl⟩ trivial ?_
      refine tf_cV hx ftX3_cutFrom (nx := 35) (As := []) (rest := [.int (nI k)]) (st2 := [.int (nI (f 364)), .int (nI k)]) (v_size hM2) rfl lX3_32 (by first | assumption | rfl | decide) rfl ⟨rfl, by decide, by decide, by decide, rfl, rfl⟩ ?_
      refine tf_go hx ftX3_cutFrom 1 [false] 38 [some (.ref 111), some (.ref 28), some (.ref 32), some (.int (nI k)), none] [] (tf_pk S f j j j (tf_ps f j)) rfl ⟨by decide, by decide, rfl⟩ ⟨trivial, (tf_leF (a := (f 364)) (b := k) rfl rfl (by omega) (by omega) (by omega))⟩ ?_
      refine tf_go hx ftX3_cutFrom 3 [] 43 [some (.ref 111), some (.ref 28), some (.ref 32), some (.int (nI k)), none] [.ref 118, .int (nI k)] (tf_pk S f j j j (tf_ps f j)) rfl ⟨by decide, by decide, rfl⟩ ⟨trivial, ⟨by first | assumption | rfl | decide | omega | exact Nat.succ_ne_zero _, by first | assumption | rfl | decide | omega | exact Nat.succ_ne_zero _⟩⟩ ?_
      refine tf_cV hx ftX3_cutFrom (nx := 46) (As := []) (rest := [.int (nI k)]) (st2 := [.int (nI (tf_ps f j)), .int (nI k)]) (v_size (tf_pk_4 (show tf_ps f j ≤ 40 by omega))) rfl lX3_32 (by first | assumption | rfl | decide) rfl ⟨rfl, by decide, by decide, by decide, rfl, rfl⟩ ?_
      by_cases e1 : k < tf_ps f j
      · refine tf_go hx ftX3_cutFrom 3 [true] 30 [some (.ref 111), some (.ref 28), some (.ref 32), some (.int ((nI k) + 1)), none] [] (tf_pk S f j j j (tf_ps f j)) rfl ⟨by decide, by decide, rfl⟩ ⟨trivial, (tf_ltT (a := k) (b := (tf_ps f j)) rfl rfl (by omega) (by omega) (by omega))⟩ ?_
        rw [show ((nI k) + 1) = nI (k + 1) from (tf_add (a := k) (b := 1) rfl (rfl : (1 : Int32) = nI 1))]
        refine tf_fgt [some (.ref 111), some (.ref 28), some (.ref 32), some (.int (nI (k + 1))), none] (by simp [tf_lss]) ?_
        exact ih (k + 1) j (by omega) (by omega) hle hlt
      · have ek : tf_ps f j = k := by omega
        refine tf_go hx ftX3_cutFrom 1 [false] 49 [some (.ref 111), some (.ref 28), some (.ref 32), some (.int (nI k)), none] [] (tf_pk S f j j j (tf_ps f j)) rfl ⟨by decide, by decide, rfl⟩ ⟨trivial, (tf_ltF (a := k) (b := (tf_ps f j)) rfl rfl (by omega) (by omega) (by omega))⟩ ?_
        have wo := tf_wd_or (f := f) (tf_ps f j)
        have win := tf_wd_in hg (show tf_ps f j < f 364 by omega)
        have szg := tf_sz_ge hg (tf_ps f j)
        have pss := tf_ps_s (f := f) (j := j)
        have j40 : j < 40 := by omega
        refine tf_go hx ftX3_cutFrom 3 [] 52 [some (.ref 111), some (.ref 28), some (.ref 32), some (.int (nI k)), none] [.int (nI k), .ref 28, .ref 32] (tf_pk S f j j j (tf_ps f j)) rfl ⟨by decide, by decide, rfl⟩ trivial ?_
        refine tf_cV hx ftX3_cutFrom (nx := 55) (As := [.ref 28, .int (nI k)]) (rest := []) (st2 := [.int (tf_on 10 (tf_wd f (tf_ps f j)))]) ((by have h := w_longest (N := N) k hv2 hg hb hM2 (by omega); rw [← ek] at h ⊢; exact h)) rfl lX3_36 (by first | assumption | rfl | decide) rfl ⟨rfl, by decide, by decide, by decide, rfl, rfl⟩ ?_
        refine tf_go hx ftX3_cutFrom 1 [] 57 [some (.ref 111), some (.ref 28), some (.ref 32), some (.int (nI k)), some (.int (tf_on 10 (tf_wd f (tf_ps f j))))] [] (tf_pk S f j j j (tf_ps f j)) rfl ⟨by decide, by decide, rfl⟩ trivial ?_
        refine tf_go hx ftX3_cutFrom 3 [] 62 [some (.ref 111), some (.ref 28), some (.ref 32), some (.int (nI k)), some (.int (tf_on 10 (tf_wd f (tf_ps f j))))] [.int (nI k), .ref 112] (tf_pk S f j j j (tf_ps f j)) rfl ⟨by decide, by decide, rfl⟩ ⟨trivial, ⟨by first | assumption | rfl | decide | omega | exact Nat.succ_ne_zero _, by first | assumption | rfl | decide | omega | exact Nat.succ_ne_zero _⟩⟩ ?_
        refine tf_cV hx ftX3_cutFrom (nx := 65) (As := [.int (nI k)]) (rest := []) (st2 := []) ((by rw [← ek]; exact v_pk1 (by omega))) rfl lX3_42 (by first | assumption | rfl | decide) rfl ⟨rfl, by decide, by decide, by decide, rfl, rfl⟩ ?_
        have hv3 : tf_wv (tf_pk S f (j + 1) j j (tf_ps f j)) f := tf_wv_fr hv hg (fun a h1 h2 => tf_pk_fr (by omega))
        refine tf_go hx ftX3_cutFrom 4 [] 72 [some (.ref 111), some (.ref 28), some (.ref 32), some (.int (nI k)), some (.int (tf_on 10 (tf_wd f (tf_ps f j))))] [.int (tf_on 10 (tf_wd f (tf_ps f j))), .ref 32, .ref 114] (tf_pk S f (j + 1) j j (tf_ps f j)) rfl ⟨by decide, by decide, rfl⟩ ⟨trivial, ⟨by first | assumption | rfl | decide | omega | exact Nat.succ_ne_zero _, by first | assumption | rfl | decide | omega | exact Nat.succ_ne_zero _⟩⟩ ?_
        refine tf_cV hx ftX3_cutFrom (nx := 75) (As := [.int (tf_on 10 (tf_wd f (tf_ps f j)))]) (rest := [.ref 114]) (st2 := [.int (nI (tf_sz f (tf_wd f (tf_ps f j)))), .ref 114]) (w_lengthOf hv3 hg hb wo) rfl lX3_45 (by first | assumption | rfl | decide) rfl ⟨rfl, by decide, by decide, by decide, rfl, rfl⟩ ?_
        refine tf_cV hx ftX3_cutFrom (nx := 78) (As := [.int (nI (tf_sz f (tf_wd f (tf_ps f j))))]) (rest := []) (st2 := []) (v_pk2 (by omega)) rfl lX3_42 (by first | assumption | rfl | decide) rfl ⟨rfl, by decide, by decide, by decide, rfl, rfl⟩ ?_
        refine tf_go hx ftX3_cutFrom 3 [] 84 [some (.ref 111), some (.ref 28), some (.ref 32), some (.int (nI k)), some (.int (tf_on 10 (tf_wd f (tf_ps f j))))] [.int (tf_on 10 (tf_wd f (tf_ps f j))), .ref 116] (tf_pk S f (j + 1) (j + 1) j (tf_ps f j)) rfl ⟨by decide, by decide, rfl⟩ ⟨trivial, ⟨by first | assumption | rfl | decide | omega | exact Nat.succ_ne_zero _, by first | assumption | rfl | decide | omega | exact Nat.succ_ne_zero _⟩⟩ ?_
        refine tf_cV hx ftX3_cutFrom (nx := 87) (As := [.int (tf_on 10 (tf_wd f (tf_ps f j)))]) (rest := []) (st2 := []) (v_pk3 (by omega)) rfl lX3_42 (by first | assumption | rfl | decide) rfl ⟨rfl, by decide, by decide, by decide, rfl, rfl⟩ ?_
        have hv4 : tf_wv (tf_pk S f (j + 1) (j + 1) (j + 1) (tf_ps f j)) f := tf_wv_fr hv hg (fun a h1 h2 => tf_pk_fr (by omega))
        refine tf_go hx ftX3_cutFrom 3 [] 91 [some (.ref 111), some (.ref 28), some (.ref 32), some (.int (nI k)), some (.int (tf_on 10 (tf_wd f (tf_ps f j))))] [.int (tf_on 10 (tf_wd f (tf_ps f j))), .ref 32, .ref 111] (tf_pk S f (j + 1) (j + 1) (j + 1) (tf_ps f j)) rfl ⟨by decide, by decide, rfl⟩ trivial ?_
        refine tf_cV hx ftX3_cutFrom (nx := 94) (As := [.int (tf_on 10 (tf_wd f (tf_ps f j)))]) (rest := [.ref 111]) (st2 := [.int (nI (tf_sz f (tf_wd f (tf_ps f j)))), .ref 111]) (w_lengthOf hv4 hg hb wo) rfl lX3_45 (by first | assumption | rfl | decide) rfl ⟨rfl, by decide, by decide, by decide, rfl, rfl⟩ ?_
        refine tf_go hx ftX3_cutFrom 2 [] 97 [some (.ref 111), some (.ref 28), some (.ref 32), some (.int (nI k)), some (.int (tf_on 10 (tf_wd f (tf_ps f j))))] [.int (tf_on 10 (tf_wd f (tf_ps f j))), .ref 32, .int (nI (tf_sz f (tf_wd f (tf_ps f j)))), .ref 111] (tf_pk S f (j + 1) (j + 1) (j + 1) (tf_ps f j)) rfl ⟨by decide, by decide, rfl⟩ trivial ?_
        refine tf_cV hx ftX3_cutFrom (nx := 100) (As := [.int (tf_on 10 (tf_wd f (tf_ps f j)))]) (rest := [.int (nI (tf_sz f (tf_wd f (tf_ps f j)))), .ref 111]) (st2 := [.int (nI (tf_pt f (tf_wd f (tf_ps f j)))), .int (nI (tf_sz f (tf_wd f (tf_ps f j)))), .ref 111]) (w_hundredths hv4 hg hb wo) rfl lX3_49 (by first | assumption | rfl | decide) rfl ⟨rfl, by decide, by decide, by decide, rfl, rfl⟩ ?_
        refine tf_cV hx ftX3_cutFrom (nx := 103) (As := [.int (nI (tf_sz f (tf_wd f (tf_ps f j)))), .int (nI (tf_pt f (tf_wd f (tf_ps f j))))]) (rest := []) (st2 := []) (q_addH hg (by omega) (by omega)) rfl lX3_52 (by first | assumption | rfl | decide) rfl ⟨rfl, by decide, by decide, by decide, rfl, rfl⟩ ?_
        refine tf_go hx ftX3_cutFrom 2 [] 30 [some (.ref 111), some (.ref 28), some (.ref 32), some (.int ((nI k) + 1)), some (.int (tf_on 10 (tf_wd f (tf_ps f j))))] [] (tf_pk S f (j + 1) (j + 1) (j + 1) (tf_ps f (j + 1))) rfl ⟨by decide, by decide, rfl⟩ trivial ?_
        rw [show ((nI k) + 1) = nI (k + 1) from (tf_add (a := k) (b := 1) rfl (rfl : (1 : Int32) = nI 1))]
        refine tf_fgt [some (.ref 111), some (.ref 28), some (.ref 32), some (.int (nI (k + 1))), none] (by simp [tf_lss]) ?_
        exact ih (k + 1) (j + 1) (by omega) (by omega) (by omega) (fun i hi => by by_cases q : i = j; rw [q]; omega; exact hlt i (by omega))
  exact loop (f 364) 0 0 (by omega) (Nat.le_refl _) (Nat.zero_le _) (fun i hi => absurd hi (Nat.not_lt_zero i))

set_option maxHeartbeats 1000000 in
theorem q_size {N : Nat} {S : tf_Sg} {f : Nat → Nat} {a b c e : Nat} (h : a ≤ 40) : tf_Fn mX3_size 2 0 0 (tf_GG N) (tf_pk S f a b c e) [.ref 111] (tf_GG N) (tf_pk S f a b c e) (some (.int (nI a))) := by
  refine tf_Fn_of (own := RX3) false ⟨by decide, rfl, by decide⟩ (Nat.le_of_ble_eq_true rfl) trivial (fun x hx hR => ?_)
  show tf_K x 0 0 (tf_GG N) (tf_pk S f a b c e) 0 [some (.ref 111)] []
  refine tf_go hx ftX3_size 2 [] 4 [some (.ref 111)] [.ref 112] (tf_pk S f a b c e) rfl ⟨by decide, by decide, rfl⟩ ⟨trivial, ⟨by first | assumption | rfl | decide | omega | exact Nat.succ_ne_zero _, by first | assumption | rfl | decide | omega | exact Nat.succ_ne_zero _⟩⟩ ?_
  refine tf_cV hx ftX3_size (nx := 7) (As := []) (rest := []) (st2 := [.int (nI a)]) (v_size (tf_pk_1 h)) rfl lX3_32 (by first | assumption | rfl | decide) rfl ⟨rfl, by decide, by decide, by decide, rfl, rfl⟩ ?_
  exact tf_ret ftX3_size hR rfl ⟨by decide, by decide⟩ rfl rfl rfl

set_option maxHeartbeats 1000000 in
theorem q_beginAt {N : Nat} {S : tf_Sg} {f : Nat → Nat} {a b c e : Nat} (i : Int32) (h : a ≤ 40) : tf_Fn mX3_beginAt 2 0 0 (tf_GG N) (tf_pk S f a b c e) [.ref 111, .int i] (tf_GG N) (tf_pk S f a b c e) (some (.int (if ¬ i < 0 ∧ ¬ nI a ≤ i then nI (tf_ps f i.toNatClampNeg) else (-9)))) := by
  refine tf_Fn_of (own := RX3) false ⟨by decide, rfl, by decide⟩ (Nat.le_of_ble_eq_true rfl) trivial (fun x hx hR => ?_)
  show tf_K x 0 0 (tf_GG N) (tf_pk S f a b c e) 0 [some (.ref 111), some (.int i)] []
  refine tf_go hx ftX3_beginAt 3 [] 5 [some (.ref 111), some (.int i)] [.int i, .ref 112] (tf_pk S f a b c e) rfl ⟨by decide, by decide, rfl⟩ ⟨trivial, ⟨by first | assumption | rfl | decide | omega | exact Nat.succ_ne_zero _, by first | assumption | rfl | decide | omega | exact Nat.succ_ne_zero _⟩⟩ ?_
  refine tf_cV hx ftX3_beginAt (nx := 8) (As := [.int i]) (rest := []) (st2 := [.int (if ¬ i < 0 ∧ ¬ nI a ≤ i then nI (tf_ps f i.toNatClampNeg) else (-9))]) (v_ati (tf_pk_1 h) i) rfl lX3_56 (by first | assumption | rfl | decide) rfl ⟨rfl, by decide, by decide, by decide, rfl, rfl⟩ ?_
  exact tf_ret ftX3_beginAt hR rfl ⟨by decide, by decide⟩ rfl rfl rfl

set_option maxHeartbeats 1000000 in
theorem q_lengthAt {N : Nat} {S : tf_Sg} {f : Nat → Nat} {a b c e : Nat} (i : Int32) (h : b ≤ 40) : tf_Fn mX3_lengthAt 2 0 0 (tf_GG N) (tf_pk S f a b c e) [.ref 111, .int i] (tf_GG N) (tf_pk S f a b c e) (some (.int (if ¬ i < 0 ∧ ¬ nI b ≤ i then nI (tf_sz f (tf_wd f (tf_ps f i.toNatClampNeg))) else (-9)))) := by
  refine tf_Fn_of (own := RX3) false ⟨by decide, rfl, by decide⟩ (Nat.le_of_ble_eq_true rfl) trivial (fun x hx hR => ?_)
  show tf_K x 0 0 (tf_GG N) (tf_pk S f a b c e) 0 [some (.ref 111), some (.int i)] []
  refine tf_go hx ftX3_lengthAt 3 [] 5 [some (.ref 111), some (.int i)] [.int i, .ref 114] (tf_pk S f a b c e) rfl ⟨by decide, by decide, rfl⟩ ⟨trivial, ⟨by first | assumption | rfl | decide | omega | exact Nat.succ_ne_zero _, by first | assumption | rfl | decide | omega | exact Nat.succ_ne_zero _⟩⟩ ?_
  refine tf_cV hx ftX3_lengthAt (nx := 8) (As := [.int i]) (rest := []) (st2 := [.int (if ¬ i < 0 ∧ ¬ nI b ≤ i then nI (tf_sz f (tf_wd f (tf_ps f i.toNatClampNeg))) else (-9))]) (v_ati (tf_pk_2 h) i) rfl lX3_56 (by first | assumption | rfl | decide) rfl ⟨rfl, by decide, by decide, by decide, rfl, rfl⟩ ?_
  exact tf_ret ftX3_lengthAt hR rfl ⟨by decide, by decide⟩ rfl rfl rfl

set_option maxHeartbeats 1000000 in
theorem q_wordAt {N : Nat} {S : tf_Sg} {f : Nat → Nat} {a b c e : Nat} (i : Int32) (h : c ≤ 40) : tf_Fn mX3_wordAt 2 0 0 (tf_GG N) (tf_pk S f a b c e) [.ref 111, .int i] (tf_GG N) (tf_pk S f a b c e) (some (.int (if ¬ i < 0 ∧ ¬ nI c ≤ i then tf_on 10 (tf_wd f (tf_ps f i.toNatClampNeg)) else (-9)))) := by
  refine tf_Fn_of (own := RX3) false ⟨by decide, rfl, by decide⟩ (Nat.le_of_ble_eq_true rfl) trivial (fun x hx hR => ?_)
  show tf_K x 0 0 (tf_GG N) (tf_pk S f a b c e) 0 [some (.ref 111), some (.int i)] []
  refine tf_go hx ftX3_wordAt 3 [] 5 [some (.ref 111), some (.int i)] [.int i, .ref 116] (tf_pk S f a b c e) rfl ⟨by decide, by decide, rfl⟩ ⟨trivial, ⟨by first | assumption | rfl | decide | omega | exact Nat.succ_ne_zero _, by first | assumption | rfl | decide | omega | exact Nat.succ_ne_zero _⟩⟩ ?_
  refine tf_cV hx ftX3_wordAt (nx := 8) (As := [.int i]) (rest := []) (st2 := [.int (if ¬ i < 0 ∧ ¬ nI c ≤ i then tf_on 10 (tf_wd f (tf_ps f i.toNatClampNeg)) else (-9))]) (v_ati (tf_pk_3 h) i) rfl lX3_56 (by first | assumption | rfl | decide) rfl ⟨rfl, by decide, by decide, by decide, rfl, rfl⟩ ?_
  exact tf_ret ftX3_wordAt hR rfl ⟨by decide, by decide⟩ rfl rfl rfl

set_option maxHeartbeats 1000000 in
theorem q_hundredthsAt {N : Nat} {S : tf_Sg} {f : Nat → Nat} {a b c e : Nat} (i : Int32) (h : e ≤ 40) : tf_Fn mX3_hundredthsAt 2 0 0 (tf_GG N) (tf_pk S f a b c e) [.ref 111, .int i] (tf_GG N) (tf_pk S f a b c e) (some (.int (if ¬ i < 0 ∧ ¬ nI e ≤ i then nI (tf_hu f i.toNatClampNeg) else (-9)))) := by
  refine tf_Fn_of (own := RX3) false ⟨by decide, rfl, by decide⟩ (Nat.le_of_ble_eq_true rfl) trivial (fun x hx hR => ?_)
  show tf_K x 0 0 (tf_GG N) (tf_pk S f a b c e) 0 [some (.ref 111), some (.int i)] []
  refine tf_go hx ftX3_hundredthsAt 3 [] 5 [some (.ref 111), some (.int i)] [.int i, .ref 118] (tf_pk S f a b c e) rfl ⟨by decide, by decide, rfl⟩ ⟨trivial, ⟨by first | assumption | rfl | decide | omega | exact Nat.succ_ne_zero _, by first | assumption | rfl | decide | omega | exact Nat.succ_ne_zero _⟩⟩ ?_
  refine tf_cV hx ftX3_hundredthsAt (nx := 8) (As := [.int i]) (rest := []) (st2 := [.int (if ¬ i < 0 ∧ ¬ nI e ≤ i then nI (tf_hu f i.toNatClampNeg) else (-9))]) (v_ati (tf_pk_4 h) i) rfl lX3_56 (by first | assumption | rfl | decide) rfl ⟨rfl, by decide, by decide, by decide, rfl, rfl⟩ ?_
  exact tf_ret ftX3_hundredthsAt hR rfl ⟨by decide, by decide⟩ rfl rfl rfl

