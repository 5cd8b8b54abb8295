/-! THE PUBLIC CALLS OF THE CLASS -/
def tf_fc (S X : tf_Sg) : Prop := ∀ a, (a < 4 ∨ 125 ≤ a) → X a = S a
def tf_cpq (M : tf_M) (d N : Nat) (S : tf_Sg) (av : List Value) (q : tf_Q) : Prop := ∃ X, tf_Fn M d 0 0 (tf_GG N) S av (tf_GG N) X (some (.int q.1)) ∧ tf_cs X q.2 ∧ tf_fc S X
theorem fc_id {S : tf_Sg} : tf_fc S S := fun _ _ => rfl
theorem fc_set {S : tf_Sg} {o k : Nat} {v : Int32} (h : 4 ≤ o ∧ o < 125) : tf_fc S (tf_set S o k v) := fun a ha => tf_set_n (by omega)
theorem fc_tr {S X Y : tf_Sg} (h1 : tf_fc S X) (h2 : tf_fc X Y) : tf_fc S Y := fun a ha => (h2 a ha).trans (h1 a ha)
theorem fc_sx {S X : tf_Sg} (h : tf_sx S X) : tf_fc S X := fun a ha => h a (by omega)
theorem tf_kept {S X : tf_Sg} {A : tf_A} (hA : tf_okA A) (h : A.2.2.2.2.2 = 1 → tf_st S 57 A.2.2.2.2.1) (hx : ∀ a, 57 ≤ a → a < 109 → X a = S a) : A.2.2.2.2.2 = 1 → tf_st X 57 A.2.2.2.2.1 := by
  intro e
  rcases hA.2.2.2.2.2 with q | q
  · omega
  · exact tf_st_c (h e) q.2 (fun a h1 h2 => hx a h1 (by omega))
theorem cs_ref {S : tf_Sg} {A : tf_A} (hA : tf_okA A) (hC : tf_cs S A) (k : Nat) : tf_cs (tf_set S 124 k (S 124 k + 1)) (tA_ref A k) := by
  obtain ⟨h1, h2, h3, ⟨h4, h5⟩, h6, h7⟩ := hC
  have e : ∀ a, a ≠ 124 → tf_set S 124 k (S 124 k + 1) a = S a := fun a ha => tf_set_n ha
  refine ⟨by rw [e 1 (by decide)]; exact h1, tf_st_c h2 hA.1 (fun a _ h => e a (by omega)), tf_kept hA h3 (fun a _ h => e a (by omega)), ⟨by rw [e 109 (by decide)]; exact h4, by rw [e 110 (by decide)]; exact h5⟩, fun j => ?_, by rw [e 4 (by decide)]; exact h7⟩
  show (if 124 = 124 ∧ j = k then S 124 k + 1 else S 124 j) = (if j = k then A.2.2.2.1 j + 1 else A.2.2.2.1 j)
  by_cases q : j = k
  · rw [if_pos ⟨rfl, q⟩, if_pos q, q, h6]
  · rw [if_neg (fun z => q z.2), if_neg q, h6]
theorem cs_sx {S X : tf_Sg} {A : tf_A} (hA : tf_okA A) (hC : tf_cs S A) (h : tf_sx S X) : tf_cs X A := by
  obtain ⟨h1, h2, h3, ⟨h4, h5⟩, h6, h7⟩ := hC
  refine ⟨by rw [h 1 (by omega)]; exact h1, nw_st h2 hA.1 h, tf_kept hA h3 (fun a _ q => h a (by omega)), ⟨by rw [h 109 (by omega)]; exact h4, by rw [h 110 (by omega)]; exact h5⟩, by rw [h 124 (by omega)]; exact h6, by rw [h 4 (by omega)]; exact h7⟩
/-- what now holds is changed, and scratch -/
def tf_nx (S X : tf_Sg) : Prop := ∀ a, (a < 5 ∨ (57 ≤ a ∧ (a ≤ 110 ∨ 124 ≤ a))) → X a = S a
theorem nx_set {S : tf_Sg} {o k : Nat} {v : Int32} (h : 5 ≤ o ∧ o < 57) : tf_nx S (tf_set S o k v) := fun a ha => tf_set_n (by omega)
theorem nx_tr {S X Y : tf_Sg} (h1 : tf_nx S X) (h2 : tf_nx X Y) : tf_nx S Y := fun a ha => (h2 a ha).trans (h1 a ha)
theorem nx_sx {S X : tf_Sg} (h : tf_sx S X) : tf_nx S X := fun a ha => h a (by omega)
theorem fc_nx {S X : tf_Sg} (h : tf_nx S X) : tf_fc S X := fun a ha => h a (by omega)
theorem cs_f {S X : tf_Sg} {A : tf_A} {f : Nat → Nat} (hA : tf_okA A) (hC : tf_cs S A) (h : tf_nx S X) (hf : tf_st X 5 f) : tf_cs X (tA_f A f) := by
  obtain ⟨h1, h2, h3, ⟨h4, h5⟩, h6, h7⟩ := hC
  exact ⟨by rw [h 1 (by omega)]; exact h1, hf, tf_kept (A := A) hA h3 (fun a _ q => h a (by omega)), ⟨by rw [h 109 (by omega)]; exact h4, by rw [h 110 (by omega)]; exact h5⟩, by rw [h 124 (by omega)]; exact h6, by rw [h 4 (by omega)]; exact h7⟩
theorem cs_t {S : tf_Sg} {A : tf_A} (hA : tf_okA A) (hC : tf_cs S A) (n : Nat) : tf_cs (tf_set S 109 1 (nI n)) (tA_t A A.2.1 n) := by
  obtain ⟨h1, h2, h3, ⟨h4, h5⟩, h6, h7⟩ := hC
  have e : ∀ a, a ≠ 109 → tf_set S 109 1 (nI n) a = S a := fun a ha => tf_set_n ha
  exact ⟨by rw [e 1 (by decide)]; exact h1, tf_st_c h2 hA.1 (fun a _ h => e a (by omega)), tf_kept (A := A) hA h3 (fun a _ h => e a (by omega)), ⟨tf_set_s, by rw [e 110 (by decide)]; exact h5⟩, by rw [e 124 (by decide)]; exact h6, by rw [e 4 (by decide)]; exact h7⟩
theorem cs_T {N : Nat} {S : tf_Sg} {A : tf_A} (hA : tf_okA A) (hC : tf_cs S A) : tf_sV (tf_GG N) S 109 48 A.2.2.1 (fun j => nI (A.2.1 j)) := ⟨se109, hC.2.2.2.1.1, hA.2.2.1, fun j _ => hC.2.2.2.1.2 j⟩
/-! one number of the state changed -/
theorem st_law {S : tf_Sg} {f : Nat → Nat} {h l v : Nat} (hS : tf_st S 5 f) (hg : tf_gd f) (hh : h < 4) (hl : l < 6) : tf_st (tf_set S (21 + 2 * h) l (nI v)) 5 (tf_u f (120 + 6 * h + l) v) := by
  have e : ∀ a, (a < 21 ∨ 27 < a) → tf_set S (21 + 2 * h) l (nI v) a = S a := fun a ha => tf_set_n (by omega)
  have u : ∀ k, (k < 120 ∨ 144 ≤ k) → tf_u f (120 + 6 * h + l) v k = f k := fun k hk => if_neg (by omega)
  have g := hg.1
  refine ⟨tf_stB_c hS.1 (fun a h1 h2 => e a (by omega)) (fun k hk => u k (by omega)), fun b hb j hj => ?_, tf_stS_c hS.2.2.1 (e _ (by omega)) (e _ (by omega)) (u _ (by omega)) (fun j hj => u _ (by omega)), tf_stS_c hS.2.2.2.1 (e _ (by omega)) (e _ (by omega)) (u _ (by omega)) (fun j hj => u _ (by omega)), tf_stV_c hS.2.2.2.2.1 hg (fun a h1 h2 => e a (by omega)) (u _ (by omega)) (fun k h1 h2 => u k (by omega)), tf_stS_c hS.2.2.2.2.2 (e _ (by omega)) (e _ (by omega)) (u _ (by omega)) (fun j hj => u _ (by omega))⟩
  show (if 5 + 16 + 2 * b = 21 + 2 * h ∧ j = l then nI v else S (5 + 16 + 2 * b) j) = nI (if 120 + 6 * b + j = 120 + 6 * h + l then v else f (120 + 6 * b + j))
  by_cases q : b = h ∧ j = l
  · rw [if_pos (by omega), if_pos (by omega)]
  · rw [if_neg (by omega), if_neg (by omega)]
    exact hS.2.1 b hb j hj
theorem st_prac {S : tf_Sg} {f : Nat → Nat} {w v : Nat} (hS : tf_st S 5 f) (hg : tf_gd f) (hw : w < f 366) : tf_st (tf_set S 54 w (nI v)) 5 (tf_u f (224 + 10 * w + 1) v) := by
  have g := hg.1
  have e : ∀ a, a ≠ 54 → tf_set S 54 w (nI v) a = S a := fun a ha => tf_set_n ha
  have u : ∀ k, k ≠ 224 + 10 * w + 1 → tf_u f (224 + 10 * w + 1) v k = f k := fun k hk => if_neg hk
  refine ⟨tf_stB_c hS.1 (fun a h1 h2 => e a (by omega)) (fun k hk => u k (by omega)), tf_stH_c hS.2.1 (fun a h1 h2 => e a (by omega)) (fun k h1 h2 => u k (by omega)), tf_stS_c hS.2.2.1 (e _ (by omega)) (e _ (by omega)) (u _ (by omega)) (fun j hj => u _ (by omega)), tf_stS_c hS.2.2.2.1 (e _ (by omega)) (e _ (by omega)) (u _ (by omega)) (fun j hj => u _ (by omega)), ?_, tf_stS_c hS.2.2.2.2.2 (e _ (by omega)) (e _ (by omega)) (u _ (by omega)) (fun j hj => u _ (by omega))⟩
  obtain ⟨h1, h2, h3⟩ := hS.2.2.2.2.1
  refine ⟨by rw [e _ (by decide), u _ (by omega)]; exact h1, fun z hz => ?_, fun z hz => by rw [e _ (by omega)]; exact h3 z hz⟩
  rw [u _ (by omega)] at hz
  have g2 := hg.2.1 z hz
  obtain ⟨q1, q2, q3⟩ := h2 z hz
  rw [e _ (by omega), e _ (by omega), u _ (by omega)]
  refine ⟨q1, fun j hj => by rw [u _ (by omega)]; exact q2 j hj, ?_⟩
  show (if 5 + 49 = 54 ∧ z = w then nI v else S (5 + 49) z) = nI (if 224 + 10 * z + 1 = 224 + 10 * w + 1 then v else f (224 + 10 * z + 1))
  by_cases q : z = w
  · rw [if_pos ⟨rfl, q⟩, if_pos (by omega)]
  · rw [if_neg (fun y => q y.2), if_neg (by omega)]
    exact q3
theorem st_put {S : tf_Sg} {f : Nat → Nat} {v : Nat} (hS : tf_st S 5 f) (hg : tf_gd f) (h40 : f 367 < 40) : tf_st (tf_ap S 55 56 (f 367) (nI v)) 5 (tf_u (tf_u f (324 + f 367) v) 367 (f 367 + 1)) := by
  have g := hg.1
  have e : ∀ a, a < 55 → tf_ap S 55 56 (f 367) (nI v) a = S a := fun a ha => by unfold tf_ap; rw [tf_set_n (by omega), tf_set_n (by omega)]
  have u : ∀ k, k ≠ 367 → k ≠ 324 + f 367 → tf_u (tf_u f (324 + f 367) v) 367 (f 367 + 1) k = f k := fun k h1 h2 => (if_neg h1).trans (if_neg h2)
  refine ⟨tf_stB_c hS.1 (fun a h1 h2 => e a (by omega)) (fun k hk => u k (by omega) (by omega)), tf_stH_c hS.2.1 (fun a h1 h2 => e a (by omega)) (fun k h1 h2 => u k (by omega) (by omega)), tf_stS_c hS.2.2.1 (e _ (by omega)) (e _ (by omega)) (u _ (by omega) (by omega)) (fun j hj => u _ (by omega) (by omega)), tf_stS_c hS.2.2.2.1 (e _ (by omega)) (e _ (by omega)) (u _ (by omega) (by omega)) (fun j hj => u _ (by omega) (by omega)), tf_stV_c hS.2.2.2.2.1 hg (fun a h1 h2 => e a (by omega)) (u _ (by omega) (by omega)) (fun k h1 h2 => u k (by omega) (by omega)), ?_⟩
  have c : tf_u (tf_u f (324 + f 367) v) 367 (f 367 + 1) 367 = f 367 + 1 := if_pos rfl
  refine ⟨by rw [c]; exact tf_set_s, fun j hj => ?_⟩
  rw [c] at hj
  have r : tf_ap S 55 56 (f 367) (nI v) 56 j = if j = f 367 then nI v else S 56 j := by
    unfold tf_ap
    rw [tf_set_n (by decide)]
    show (if 56 = 56 ∧ j = f 367 then nI v else S 56 j) = _
    by_cases q : j = f 367
    · rw [if_pos ⟨rfl, q⟩, if_pos q]
    · rw [if_neg (fun y => q y.2), if_neg q]
  show tf_ap S 55 56 (f 367) (nI v) 56 j = _
  rw [r]
  by_cases q : j = f 367
  · rw [if_pos q, q]
    congr 1
    exact ((if_neg (by omega)).trans (if_pos rfl)).symm
  · rw [if_neg q, u _ (by omega) (by omega)]
    exact hS.2.2.2.2.2.2 j (by omega)
theorem st_unput {S : tf_Sg} {f : Nat → Nat} (hS : tf_st S 5 f) (hg : tf_gd f) : tf_st (tf_set S 55 1 0) 5 (tf_u f 367 0) := by
  have g := hg.1
  have e : ∀ a, a ≠ 55 → tf_set S 55 1 0 a = S a := fun a ha => tf_set_n ha
  have u : ∀ k, k ≠ 367 → tf_u f 367 0 k = f k := fun k hk => if_neg hk
  refine ⟨tf_stB_c hS.1 (fun a h1 h2 => e a (by omega)) (fun k hk => u k (by omega)), tf_stH_c hS.2.1 (fun a h1 h2 => e a (by omega)) (fun k h1 h2 => u k (by omega)), tf_stS_c hS.2.2.1 (e _ (by omega)) (e _ (by omega)) (u _ (by omega)) (fun j hj => u _ (by omega)), tf_stS_c hS.2.2.2.1 (e _ (by omega)) (e _ (by omega)) (u _ (by omega)) (fun j hj => u _ (by omega)), tf_stV_c hS.2.2.2.2.1 hg (fun a h1 h2 => e a (by omega)) (u _ (by omega)) (fun k h1 h2 => u k (by omega)), ?_⟩
  have c : tf_u f 367 0 367 = 0 := if_pos rfl
  exact ⟨by rw [c]; exact tf_set_s, fun j hj => by rw [c] at hj; exact absurd hj (Nat.not_lt_zero j)⟩
theorem tf_ke_kp {f p : Nat → Nat} {b : Nat} (h : ∀ k, k < 30 → f (30 * b + k) = p k) (l : Nat) : tf_ke f b l = tf_kp p l := by
  unfold tf_ke tf_kp
  have h1 : ∀ n k, k + n = 30 → tf_fst (fun i => f (30 * b + i) == l + 1) n k = tf_fst (fun i => p i == l + 1) n k := by
    intro n
    induction n with
    | zero => intro k _; rfl
    | succ n ih =>
      intro k hk
      by_cases q : (p k == l + 1) = true
      · rw [tf_fst_y (P := fun i => p i == l + 1) q, tf_fst_y (P := fun i => f (30 * b + i) == l + 1) (by rw [h k (by omega)]; exact q)]
      · rw [tf_fst_n (P := fun i => p i == l + 1) q, tf_fst_n (P := fun i => f (30 * b + i) == l + 1) (by rw [h k (by omega)]; exact q), ih (k + 1) (by omega)]
  exact h1 30 0 rfl
/-- a board written anew -/
theorem st_board {S : tf_Sg} {f f' p : Nat → Nat} {b : Nat} (hS : tf_st S 5 f) (hg : tf_gd f) (hb : b < 4) (h1 : ∀ k, k < 30 → f' (30 * b + k) = p k) (h2 : ∀ k, (k < 30 * b ∨ 30 * b + 30 ≤ k) → f' k = f k) : tf_st (tf_bp S (8 + 3 * b) (9 + 3 * b) p) 5 f' := by
  have g := hg.1
  have e : ∀ a, a ≠ 8 + 3 * b → a ≠ 9 + 3 * b → tf_bp S (8 + 3 * b) (9 + 3 * b) p a = S a := fun a h3 h4 => tf_bp_n h3 h4
  refine ⟨fun c hc => ?_, tf_stH_c hS.2.1 (fun a h3 h4 => e a (by omega) (by omega)) (fun k h3 h4 => h2 k (by omega)), tf_stS_c hS.2.2.1 (e _ (by omega) (by omega)) (e _ (by omega) (by omega)) (h2 _ (by omega)) (fun j hj => h2 _ (by omega)), tf_stS_c hS.2.2.2.1 (e _ (by omega) (by omega)) (e _ (by omega) (by omega)) (h2 _ (by omega)) (fun j hj => h2 _ (by omega)), tf_stV_c hS.2.2.2.2.1 hg (fun a h3 h4 => e a (by omega) (by omega)) (h2 _ (by omega)) (fun k h3 h4 => h2 k (by omega)), tf_stS_c hS.2.2.2.2.2 (e _ (by omega) (by omega)) (e _ (by omega) (by omega)) (h2 _ (by omega)) (fun j hj => h2 _ (by omega))⟩
  by_cases q : c = b
  · subst q
    refine ⟨fun k hk => ?_, fun l hl => ?_⟩
    · show tf_bp S (8 + 3 * c) (9 + 3 * c) p (5 + 3 + 3 * c) k = _
      rw [show 5 + 3 + 3 * c = 8 + 3 * c by omega, h1 k hk]
      exact if_pos ⟨rfl, hk⟩
    · show tf_bp S (8 + 3 * c) (9 + 3 * c) p (5 + 4 + 3 * c) l = _
      rw [show 5 + 4 + 3 * c = 9 + 3 * c by omega, tf_ke_kp h1]
      exact (if_neg (show ¬ (9 + 3 * c = 8 + 3 * c ∧ l < 30) by omega)).trans (if_pos ⟨rfl, hl⟩)
  · obtain ⟨q1, q2⟩ := hS.1 c hc
    refine ⟨fun k hk => ?_, fun l hl => ?_⟩
    · rw [e _ (by omega) (by omega), h2 _ (by omega)]; exact q1 k hk
    · rw [e _ (by omega) (by omega), tf_ke_c (fun k hk => h2 _ (by omega)) l]; exact q2 l hl
theorem tf_bp_id {S : tf_Sg} {a c : Nat} {p : Nat → Nat} (h1 : ∀ k, k < 30 → S a k = tf_vo (p k)) (h2 : ∀ l, l < 26 → S c l = tf_on 30 (tf_kp p l)) : tf_bp S a c p = S := by
  funext x k
  show (if x = a ∧ k < 30 then tf_vo (p k) else if x = c ∧ k < 26 then tf_on 30 (tf_kp p k) else S x k) = S x k
  by_cases q : x = a ∧ k < 30
  · rw [if_pos q, q.1, h1 k q.2]
  · rw [if_neg q]
    by_cases z : x = c ∧ k < 26
    · rw [if_pos z, z.1, h2 k z.2]
    · rw [if_neg z]
theorem nw_bp {S : tf_Sg} {f : Nat → Nat} {b : Nat} (hS : tf_st S 5 f) (hb : b < 4) : tf_bp S (8 + 3 * b) (9 + 3 * b) (fun k => f (30 * b + k)) = S := tf_bp_id (hS.1 b hb).1 (hS.1 b hb).2
theorem tf_pe_ex {f : Nat → Nat} {b x y : Nat} (hx : x < 30) (hy : y < 30) : ∀ k, k < 30 → tf_ex f b x y (30 * b + k) = tf_pe (fun k => f (30 * b + k)) x y k := by
  intro k hk
  rw [tf_ex_at, tf_pe_at]
  by_cases q : k = y
  · rw [if_pos (by omega), if_pos q]
  · rw [if_neg (by omega), if_neg q]
    by_cases z : k = x
    · rw [if_pos (by omega), if_pos z]
    · rw [if_neg (by omega), if_neg z]
theorem n_swap {N : Nat} {S : tf_Sg} {f : Nat → Nat} {b x y : Nat} (hS : tf_st S 5 f) (hg : tf_gd f) (hb : b < 4) (hx : x < 30) (hy : y < 30) : tf_Fn mX0_swap 3 0 0 (tf_GG N) S [.ref (7 + 3 * b), .int (nI x), .int (nI y)] (tf_GG N) (tf_bp S (8 + 3 * b) (9 + 3 * b) (tf_pe (fun k => f (30 * b + k)) x y)) none := by
  have h := b_swap (S := S) (p := fun k => f (30 * b + k)) (bdn (N := N) hb).1 hx hy (fun k hk => hg.2.2.2.2.2.2.1 _ (by omega)) (fun i j hij hj h0 e => by have := hg.2.2.2.2.2.2.2 b hb i j (by omega) hj e (by omega); omega)
  rw [(bdn hb).2.1, (bdn hb).2.2.1, nw_bp hS hb] at h
  exact h
theorem st_swap {S : tf_Sg} {f : Nat → Nat} {b x y : Nat} (hS : tf_st S 5 f) (hg : tf_gd f) (hb : b < 4) (hx : x < 30) (hy : y < 30) : tf_st (tf_bp S (8 + 3 * b) (9 + 3 * b) (tf_pe (fun k => f (30 * b + k)) x y)) 5 (tf_ex f b x y) := st_board hS hg hb (tf_pe_ex hx hy) (fun k hk => by rw [tf_ex_at, if_neg (by omega), if_neg (by omega)])
theorem nx_bp {S : tf_Sg} {b : Nat} {p : Nat → Nat} (hb : b < 4) : tf_nx S (tf_bp S (8 + 3 * b) (9 + 3 * b) p) := fun a ha => tf_bp_n (by omega) (by omega)

def tX10_feed : tf_T := [(0, .iload_n 1, 1, 0, 0),
  (1, .iconst 1, 2, 0, 1),
  (2, .if_icmp .ge 10, 5, 12, 0),
  (5, .aload_n 0, 6, 0, 0),
  (6, .bipush (-4), 8, 0, (-4)),
  (8, .invokevirtual 50, 11, 0, 0),
  (11, .ireturn, 12, 0, 0),
  (12, .iload_n 1, 13, 0, 0),
  (13, .bipush 8, 15, 0, 8),
  (15, .if_icmp .gt 17, 18, 32, 0),
  (18, .iload_n 1, 19, 0, 0),
  (19, .bipush 48, 21, 0, 48),
  (21, .aload_n 0, 22, 0, 0),
  (22, .getfield 24, 25, 0, 0),
  (25, .invokevirtual 54, 28, 0, 0),
  (28, .isub, 29, 0, 0),
  (29, .if_icmp .le 10, 32, 39, 0),
  (32, .aload_n 0, 33, 0, 0),
  (33, .bipush (-6), 35, 0, (-6)),
  (35, .invokevirtual 50, 38, 0, 0),
  (38, .ireturn, 39, 0, 0),
  (39, .iconst 0, 40, 0, 0),
  (40, .istore 4, 42, 0, 0),
  (42, .iload 4, 44, 0, 0),
  (44, .iload_n 1, 45, 0, 0),
  (45, .if_icmp .ge 28, 48, 73, 0),
  (48, .aload_n 0, 49, 0, 0),
  (49, .getfield 24, 52, 0, 0),
  (52, .lload_n 2, 53, 0, 0),
  (53, .bipush 8, 55, 0, 8),
  (55, .iload 4, 57, 0, 0),
  (57, .imul, 58, 0, 0),
  (58, .lushr, 59, 0, 0),
  (59, .l2i, 60, 0, 0),
  (60, .sipush 255, 63, 0, 255),
  (63, .iand, 64, 0, 0),
  (64, .invokevirtual 58, 67, 0, 0),
  (67, .iinc 4 1, 70, 0, 1),
  (70, .goto (-28), 73, 42, 0),
  (73, .aload_n 0, 74, 0, 0),
  (74, .getfield 24, 77, 0, 0),
  (77, .invokevirtual 54, 80, 0, 0),
  (80, .ireturn, 81, 0, 0)]
set_option maxRecDepth 100000 in
theorem okX10_feed : tf_okT cX10_feed tX10_feed := by unfold tf_okT; decide +kernel
theorem ftX10_feed : 1 ≤ 2 ∧ tf_okF RX10 fX10 ∧ tf_okT cX10_feed tX10_feed := ⟨by decide, okfX10, okX10_feed⟩
def mX10_feed : tf_M := (yX10_feed, cX10_feed, 5, (some .int))

def tX10_board : tf_T := [(0, .iload_n 1, 1, 0, 0),
  (1, .invokestatic 61, 4, 0, 0),
  (4, .ifCond .eq 9, 7, 13, 0),
  (7, .aload_n 0, 8, 0, 0),
  (8, .iconst (-1), 9, 0, (-1)),
  (9, .invokevirtual 50, 12, 0, 0),
  (12, .ireturn, 13, 0, 0),
  (13, .aload_n 0, 14, 0, 0),
  (14, .getfield 24, 17, 0, 0),
  (17, .invokestatic 65, 20, 0, 0),
  (20, .istore_n 2, 21, 0, 0),
  (21, .iload_n 2, 22, 0, 0),
  (22, .ifCond .lt 10, 25, 32, 0),
  (25, .bipush (-20), 27, 0, (-20)),
  (27, .iload_n 2, 28, 0, 0),
  (28, .isub, 29, 0, 0),
  (29, .goto 19, 32, 48, 0),
  (32, .aload_n 0, 33, 0, 0),
  (33, .getfield 10, 36, 0, 0),
  (36, .getfield 71, 39, 0, 0),
  (39, .iload_n 1, 40, 0, 0),
  (40, .aaload, 41, 0, 0),
  (41, .aload_n 0, 42, 0, 0),
  (42, .getfield 24, 45, 0, 0),
  (45, .invokevirtual 75, 48, 0, 0),
  (48, .istore_n 3, 49, 0, 0),
  (49, .aload_n 0, 50, 0, 0),
  (50, .getfield 24, 53, 0, 0),
  (53, .invokevirtual 80, 56, 0, 0),
  (56, .iload_n 3, 57, 0, 0),
  (57, .ireturn, 58, 0, 0)]
set_option maxRecDepth 100000 in
theorem okX10_board : tf_okT cX10_board tX10_board := by unfold tf_okT; decide +kernel
theorem ftX10_board : 1 ≤ 4 ∧ tf_okF RX10 fX10 ∧ tf_okT cX10_board tX10_board := ⟨by decide, okfX10, okX10_board⟩
def mX10_board : tf_M := (yX10_board, cX10_board, 4, (some .int))

def tX10_text : tf_T := [(0, .aload_n 0, 1, 0, 0),
  (1, .getfield 24, 4, 0, 0),
  (4, .invokevirtual 54, 7, 0, 0),
  (7, .bipush 40, 9, 0, 40),
  (9, .if_icmp .le 10, 12, 19, 0),
  (12, .aload_n 0, 13, 0, 0),
  (13, .bipush (-6), 15, 0, (-6)),
  (15, .invokevirtual 50, 18, 0, 0),
  (18, .ireturn, 19, 0, 0),
  (19, .aload_n 0, 20, 0, 0),
  (20, .getfield 24, 23, 0, 0),
  (23, .iload_n 1, 24, 0, 0),
  (24, .ifCond .ne 7, 27, 31, 0),
  (27, .iconst 1, 28, 0, 1),
  (28, .goto 4, 31, 32, 0),
  (31, .iconst 0, 32, 0, 0),
  (32, .invokestatic 83, 35, 0, 0),
  (35, .istore_n 2, 36, 0, 0),
  (36, .iload_n 2, 37, 0, 0),
  (37, .ifCond .lt 10, 40, 47, 0),
  (40, .bipush (-20), 42, 0, (-20)),
  (42, .iload_n 2, 43, 0, 0),
  (43, .isub, 44, 0, 0),
  (44, .goto 31, 47, 75, 0),
  (47, .iload_n 1, 48, 0, 0),
  (48, .ifCond .eq 13, 51, 61, 0),
  (51, .aload_n 0, 52, 0, 0),
  (52, .getfield 10, 55, 0, 0),
  (55, .getfield 87, 58, 0, 0),
  (58, .goto 10, 61, 68, 0),
  (61, .aload_n 0, 62, 0, 0),
  (62, .getfield 10, 65, 0, 0),
  (65, .getfield 90, 68, 0, 0),
  (68, .aload_n 0, 69, 0, 0),
  (69, .getfield 24, 72, 0, 0),
  (72, .invokestatic 93, 75, 0, 0),
  (75, .istore_n 3, 76, 0, 0),
  (76, .aload_n 0, 77, 0, 0),
  (77, .getfield 24, 80, 0, 0),
  (80, .invokevirtual 80, 83, 0, 0),
  (83, .iload_n 3, 84, 0, 0),
  (84, .ireturn, 85, 0, 0)]
set_option maxRecDepth 100000 in
theorem okX10_text : tf_okT cX10_text tX10_text := by unfold tf_okT; decide +kernel
theorem ftX10_text : 1 ≤ 3 ∧ tf_okF RX10 fX10 ∧ tf_okT cX10_text tX10_text := ⟨by decide, okfX10, okX10_text⟩
def mX10_text : tf_M := (yX10_text, cX10_text, 4, (some .int))

def tX10_word : tf_T := [(0, .aload_n 0, 1, 0, 0),
  (1, .getfield 10, 4, 0, 0),
  (4, .getfield 97, 7, 0, 0),
  (7, .invokevirtual 101, 10, 0, 0),
  (10, .bipush 10, 12, 0, 10),
  (12, .if_icmp .lt 10, 15, 22, 0),
  (15, .aload_n 0, 16, 0, 0),
  (16, .bipush (-6), 18, 0, (-6)),
  (18, .invokevirtual 50, 21, 0, 0),
  (21, .ireturn, 22, 0, 0),
  (22, .aload_n 0, 23, 0, 0),
  (23, .getfield 24, 26, 0, 0),
  (26, .iconst 0, 27, 0, 0),
  (27, .invokestatic 83, 30, 0, 0),
  (30, .istore_n 1, 31, 0, 0),
  (31, .iload_n 1, 32, 0, 0),
  (32, .ifCond .lt 11, 35, 43, 0),
  (35, .bipush (-20), 37, 0, (-20)),
  (37, .iload_n 1, 38, 0, 0),
  (38, .isub, 39, 0, 0),
  (39, .istore_n 2, 40, 0, 0),
  (40, .goto 51, 43, 91, 0),
  (43, .aload_n 0, 44, 0, 0),
  (44, .getfield 24, 47, 0, 0),
  (47, .invokevirtual 54, 50, 0, 0),
  (50, .iconst 2, 51, 0, 2),
  (51, .if_icmp .lt 15, 54, 66, 0),
  (54, .aload_n 0, 55, 0, 0),
  (55, .getfield 24, 58, 0, 0),
  (58, .invokevirtual 54, 61, 0, 0),
  (61, .bipush 8, 63, 0, 8),
  (63, .if_icmp .le 13, 66, 76, 0),
  (66, .aload_n 0, 67, 0, 0),
  (67, .bipush (-3), 69, 0, (-3)),
  (69, .invokevirtual 50, 72, 0, 0),
  (72, .istore_n 2, 73, 0, 0),
  (73, .goto 18, 76, 91, 0),
  (76, .aload_n 0, 77, 0, 0),
  (77, .getfield 10, 80, 0, 0),
  (80, .getfield 97, 83, 0, 0),
  (83, .aload_n 0, 84, 0, 0),
  (84, .getfield 24, 87, 0, 0),
  (87, .invokevirtual 104, 90, 0, 0),
  (90, .istore_n 2, 91, 0, 0),
  (91, .aload_n 0, 92, 0, 0),
  (92, .getfield 24, 95, 0, 0),
  (95, .invokevirtual 80, 98, 0, 0),
  (98, .iload_n 2, 99, 0, 0),
  (99, .ireturn, 100, 0, 0)]
set_option maxRecDepth 100000 in
theorem okX10_word : tf_okT cX10_word tX10_word := by unfold tf_okT; decide +kernel
theorem ftX10_word : 1 ≤ 4 ∧ tf_okF RX10 fX10 ∧ tf_okT cX10_word tX10_word := ⟨by decide, okfX10, okX10_word⟩
def mX10_word : tf_M := (yX10_word, cX10_word, 3, (some .int))

def tX10_keyOf : tf_T := [(0, .iload_n 1, 1, 0, 0),
  (1, .invokestatic 61, 4, 0, 0),
  (4, .ifCond .ne 13, 7, 17, 0),
  (7, .iload_n 2, 8, 0, 0),
  (8, .ifCond .lt 9, 11, 17, 0),
  (11, .iload_n 2, 12, 0, 0),
  (12, .bipush 26, 14, 0, 26),
  (14, .if_icmp .lt 9, 17, 23, 0),
  (17, .aload_n 0, 18, 0, 0),
  (18, .iconst (-1), 19, 0, (-1)),
  (19, .invokevirtual 50, 22, 0, 0),
  (22, .ireturn, 23, 0, 0),
  (23, .aload_n 0, 24, 0, 0),
  (24, .getfield 10, 27, 0, 0),
  (27, .getfield 71, 30, 0, 0),
  (30, .iload_n 1, 31, 0, 0),
  (31, .aaload, 32, 0, 0),
  (32, .iload_n 2, 33, 0, 0),
  (33, .invokevirtual 107, 36, 0, 0),
  (36, .ireturn, 37, 0, 0)]
set_option maxRecDepth 100000 in
theorem okX10_keyOf : tf_okT cX10_keyOf tX10_keyOf := by unfold tf_okT; decide +kernel
theorem ftX10_keyOf : 1 ≤ 2 ∧ tf_okF RX10 fX10 ∧ tf_okT cX10_keyOf tX10_keyOf := ⟨by decide, okfX10, okX10_keyOf⟩
def mX10_keyOf : tf_M := (yX10_keyOf, cX10_keyOf, 3, (some .int))

def tX10_letterOn : tf_T := [(0, .iload_n 1, 1, 0, 0),
  (1, .invokestatic 61, 4, 0, 0),
  (4, .ifCond .ne 10, 7, 14, 0),
  (7, .iload_n 2, 8, 0, 0),
  (8, .invokestatic 110, 11, 0, 0),
  (11, .ifCond .eq 9, 14, 20, 0),
  (14, .aload_n 0, 15, 0, 0),
  (15, .iconst (-1), 16, 0, (-1)),
  (16, .invokevirtual 50, 19, 0, 0),
  (19, .ireturn, 20, 0, 0),
  (20, .aload_n 0, 21, 0, 0),
  (21, .getfield 10, 24, 0, 0),
  (24, .getfield 71, 27, 0, 0),
  (27, .iload_n 1, 28, 0, 0),
  (28, .aaload, 29, 0, 0),
  (29, .iload_n 2, 30, 0, 0),
  (30, .invokevirtual 113, 33, 0, 0),
  (33, .ireturn, 34, 0, 0)]
set_option maxRecDepth 100000 in
theorem okX10_letterOn : tf_okT cX10_letterOn tX10_letterOn := by unfold tf_okT; decide +kernel
theorem ftX10_letterOn : 1 ≤ 3 ∧ tf_okF RX10 fX10 ∧ tf_okT cX10_letterOn tX10_letterOn := ⟨by decide, okfX10, okX10_letterOn⟩
def mX10_letterOn : tf_M := (yX10_letterOn, cX10_letterOn, 3, (some .int))

def tX10_fingerOf : tf_T := [(0, .iload_n 1, 1, 0, 0),
  (1, .invokestatic 110, 4, 0, 0),
  (4, .ifCond .eq 9, 7, 13, 0),
  (7, .aload_n 0, 8, 0, 0),
  (8, .iconst (-1), 9, 0, (-1)),
  (9, .invokevirtual 50, 12, 0, 0),
  (12, .ireturn, 13, 0, 0),
  (13, .iload_n 1, 14, 0, 0),
  (14, .iload_n 2, 15, 0, 0),
  (15, .invokestatic 116, 18, 0, 0),
  (18, .ireturn, 19, 0, 0)]
set_option maxRecDepth 100000 in
theorem okX10_fingerOf : tf_okT cX10_fingerOf tX10_fingerOf := by unfold tf_okT; decide +kernel
theorem ftX10_fingerOf : 1 ≤ 3 ∧ tf_okF RX10 fX10 ∧ tf_okT cX10_fingerOf tX10_fingerOf := ⟨by decide, okfX10, okX10_fingerOf⟩
def mX10_fingerOf : tf_M := (yX10_fingerOf, cX10_fingerOf, 3, (some .int))

def tX10_law : tf_T := [(0, .iload_n 1, 1, 0, 0),
  (1, .invokestatic 122, 4, 0, 0),
  (4, .ifCond .ne 13, 7, 17, 0),
  (7, .iload_n 2, 8, 0, 0),
  (8, .ifCond .lt 9, 11, 17, 0),
  (11, .iload_n 2, 12, 0, 0),
  (12, .bipush 6, 14, 0, 6),
  (14, .if_icmp .lt 9, 17, 23, 0),
  (17, .aload_n 0, 18, 0, 0),
  (18, .iconst (-1), 19, 0, (-1)),
  (19, .invokevirtual 50, 22, 0, 0),
  (22, .ireturn, 23, 0, 0),
  (23, .iload_n 3, 24, 0, 0),
  (24, .ifCond .ge 10, 27, 34, 0),
  (27, .aload_n 0, 28, 0, 0),
  (28, .bipush (-4), 30, 0, (-4)),
  (30, .invokevirtual 50, 33, 0, 0),
  (33, .ireturn, 34, 0, 0),
  (34, .iload_n 3, 35, 0, 0),
  (35, .sipush 999, 38, 0, 999),
  (38, .if_icmp .le 10, 41, 48, 0),
  (41, .aload_n 0, 42, 0, 0),
  (42, .bipush (-6), 44, 0, (-6)),
  (44, .invokevirtual 50, 47, 0, 0),
  (47, .ireturn, 48, 0, 0),
  (48, .aload_n 0, 49, 0, 0),
  (49, .getfield 10, 52, 0, 0),
  (52, .getfield 125, 55, 0, 0),
  (55, .iload_n 1, 56, 0, 0),
  (56, .aaload, 57, 0, 0),
  (57, .iload_n 2, 58, 0, 0),
  (58, .iload_n 3, 59, 0, 0),
  (59, .invokevirtual 129, 62, 0, 0),
  (62, .ireturn, 63, 0, 0)]
set_option maxRecDepth 100000 in
theorem okX10_law : tf_okT cX10_law tX10_law := by unfold tf_okT; decide +kernel
theorem ftX10_law : 1 ≤ 2 ∧ tf_okF RX10 fX10 ∧ tf_okT cX10_law tX10_law := ⟨by decide, okfX10, okX10_law⟩
def mX10_law : tf_M := (yX10_law, cX10_law, 4, (some .int))

def tX10_gap : tf_T := [(0, .iload_n 1, 1, 0, 0),
  (1, .invokestatic 122, 4, 0, 0),
  (4, .ifCond .ne 25, 7, 29, 0),
  (7, .iload_n 2, 8, 0, 0),
  (8, .invokestatic 61, 11, 0, 0),
  (11, .ifCond .ne 18, 14, 29, 0),
  (14, .iload_n 3, 15, 0, 0),
  (15, .invokestatic 110, 18, 0, 0),
  (18, .ifCond .ne 11, 21, 29, 0),
  (21, .iload 4, 23, 0, 0),
  (23, .invokestatic 110, 26, 0, 0),
  (26, .ifCond .eq 9, 29, 35, 0),
  (29, .aload_n 0, 30, 0, 0),
  (30, .iconst (-1), 31, 0, (-1)),
  (31, .invokevirtual 50, 34, 0, 0),
  (34, .ireturn, 35, 0, 0),
  (35, .aload_n 0, 36, 0, 0),
  (36, .getfield 10, 39, 0, 0),
  (39, .getfield 125, 42, 0, 0),
  (42, .iload_n 1, 43, 0, 0),
  (43, .aaload, 44, 0, 0),
  (44, .iload_n 3, 45, 0, 0),
  (45, .iload 4, 47, 0, 0),
  (47, .iconst 0, 48, 0, 0),
  (48, .invokevirtual 135, 51, 0, 0),
  (51, .ireturn, 52, 0, 0)]
set_option maxRecDepth 100000 in
theorem okX10_gap : tf_okT cX10_gap tX10_gap := by unfold tf_okT; decide +kernel
theorem ftX10_gap : 1 ≤ 5 ∧ tf_okF RX10 fX10 ∧ tf_okT cX10_gap tX10_gap := ⟨by decide, okfX10, okX10_gap⟩
def mX10_gap : tf_M := (yX10_gap, cX10_gap, 5, (some .int))

def tX10_sign : tf_T := [(0, .iload_n 1, 1, 0, 0),
  (1, .ifCond .eq 17, 4, 18, 0),
  (4, .aload_n 0, 5, 0, 0),
  (5, .getfield 10, 8, 0, 0),
  (8, .getfield 87, 11, 0, 0),
  (11, .iload_n 2, 12, 0, 0),
  (12, .invokevirtual 139, 15, 0, 0),
  (15, .goto 14, 18, 29, 0),
  (18, .aload_n 0, 19, 0, 0),
  (19, .getfield 10, 22, 0, 0),
  (22, .getfield 90, 25, 0, 0),
  (25, .iload_n 2, 26, 0, 0),
  (26, .invokevirtual 139, 29, 0, 0),
  (29, .ireturn, 30, 0, 0)]
set_option maxRecDepth 100000 in
theorem okX10_sign : tf_okT cX10_sign tX10_sign := by unfold tf_okT; decide +kernel
theorem ftX10_sign : 1 ≤ 2 ∧ tf_okF RX10 fX10 ∧ tf_okT cX10_sign tX10_sign := ⟨by decide, okfX10, okX10_sign⟩
def mX10_sign : tf_M := (yX10_sign, cX10_sign, 3, (some .int))

def tX10_practise : tf_T := [(0, .iload_n 1, 1, 0, 0),
  (1, .ifCond .lt 17, 4, 18, 0),
  (4, .iload_n 1, 5, 0, 0),
  (5, .aload_n 0, 6, 0, 0),
  (6, .getfield 10, 9, 0, 0),
  (9, .getfield 97, 12, 0, 0),
  (12, .invokevirtual 101, 15, 0, 0),
  (15, .if_icmp .lt 9, 18, 24, 0),
  (18, .aload_n 0, 19, 0, 0),
  (19, .iconst (-1), 20, 0, (-1)),
  (20, .invokevirtual 50, 23, 0, 0),
  (23, .ireturn, 24, 0, 0),
  (24, .iload_n 2, 25, 0, 0),
  (25, .iconst 1, 26, 0, 1),
  (26, .if_icmp .ge 10, 29, 36, 0),
  (29, .aload_n 0, 30, 0, 0),
  (30, .bipush (-4), 32, 0, (-4)),
  (32, .invokevirtual 50, 35, 0, 0),
  (35, .ireturn, 36, 0, 0),
  (36, .iload_n 2, 37, 0, 0),
  (37, .sipush 999, 40, 0, 999),
  (40, .if_icmp .le 10, 43, 50, 0),
  (43, .aload_n 0, 44, 0, 0),
  (44, .bipush (-6), 46, 0, (-6)),
  (46, .invokevirtual 50, 49, 0, 0),
  (49, .ireturn, 50, 0, 0),
  (50, .aload_n 0, 51, 0, 0),
  (51, .getfield 10, 54, 0, 0),
  (54, .getfield 97, 57, 0, 0),
  (57, .iload_n 1, 58, 0, 0),
  (58, .iload_n 2, 59, 0, 0),
  (59, .invokevirtual 142, 62, 0, 0),
  (62, .ireturn, 63, 0, 0)]
set_option maxRecDepth 100000 in
theorem okX10_practise : tf_okT cX10_practise tX10_practise := by unfold tf_okT; decide +kernel
theorem ftX10_practise : 1 ≤ 3 ∧ tf_okF RX10 fX10 ∧ tf_okT cX10_practise tX10_practise := ⟨by decide, okfX10, okX10_practise⟩
def mX10_practise : tf_M := (yX10_practise, cX10_practise, 3, (some .int))

def tX10_piece : tf_T := [(0, .iload_n 2, 1, 0, 0),
  (1, .ifCond .lt 8, 4, 9, 0),
  (4, .iload_n 2, 5, 0, 0),
  (5, .iconst 2, 6, 0, 2),
  (6, .if_icmp .le 10, 9, 16, 0),
  (9, .aload_n 0, 10, 0, 0),
  (10, .bipush (-2), 12, 0, (-2)),
  (12, .invokevirtual 50, 15, 0, 0),
  (15, .ireturn, 16, 0, 0),
  (16, .aload_n 0, 17, 0, 0),
  (17, .getfield 31, 20, 0, 0),
  (20, .aload_n 0, 21, 0, 0),
  (21, .getfield 10, 24, 0, 0),
  (24, .getfield 87, 27, 0, 0),
  (27, .aload_n 0, 28, 0, 0),
  (28, .getfield 10, 31, 0, 0),
  (31, .getfield 97, 34, 0, 0),
  (34, .invokevirtual 145, 37, 0, 0),
  (37, .iload_n 2, 38, 0, 0),
  (38, .ifCond .ne 12, 41, 50, 0),
  (41, .aload_n 0, 42, 0, 0),
  (42, .getfield 31, 45, 0, 0),
  (45, .iload_n 1, 46, 0, 0),
  (46, .invokevirtual 149, 49, 0, 0),
  (49, .ireturn, 50, 0, 0),
  (50, .iload_n 2, 51, 0, 0),
  (51, .iconst 1, 52, 0, 1),
  (52, .if_icmp .ne 14, 55, 66, 0),
  (55, .aload_n 0, 56, 0, 0),
  (56, .getfield 31, 59, 0, 0),
  (59, .iload_n 1, 60, 0, 0),
  (60, .invokevirtual 152, 63, 0, 0),
  (63, .goto 11, 66, 74, 0),
  (66, .aload_n 0, 67, 0, 0),
  (67, .getfield 31, 70, 0, 0),
  (70, .iload_n 1, 71, 0, 0),
  (71, .invokevirtual 155, 74, 0, 0),
  (74, .ireturn, 75, 0, 0)]
set_option maxRecDepth 100000 in
theorem okX10_piece : tf_okT cX10_piece tX10_piece := by unfold tf_okT; decide +kernel
theorem ftX10_piece : 1 ≤ 5 ∧ tf_okF RX10 fX10 ∧ tf_okT cX10_piece tX10_piece := ⟨by decide, okfX10, okX10_piece⟩
def mX10_piece : tf_M := (yX10_piece, cX10_piece, 3, (some .int))

def tX10_pieces : tf_T := [(0, .aload_n 0, 1, 0, 0),
  (1, .getfield 31, 4, 0, 0),
  (4, .aload_n 0, 5, 0, 0),
  (5, .getfield 10, 8, 0, 0),
  (8, .getfield 87, 11, 0, 0),
  (11, .aload_n 0, 12, 0, 0),
  (12, .getfield 10, 15, 0, 0),
  (15, .getfield 97, 18, 0, 0),
  (18, .invokevirtual 145, 21, 0, 0),
  (21, .aload_n 0, 22, 0, 0),
  (22, .getfield 31, 25, 0, 0),
  (25, .invokevirtual 158, 28, 0, 0),
  (28, .ireturn, 29, 0, 0)]
set_option maxRecDepth 100000 in
theorem okX10_pieces : tf_okT cX10_pieces tX10_pieces := by unfold tf_okT; decide +kernel
theorem ftX10_pieces : 1 ≤ 5 ∧ tf_okF RX10 fX10 ∧ tf_okT cX10_pieces tX10_pieces := ⟨by decide, okfX10, okX10_pieces⟩
def mX10_pieces : tf_M := (yX10_pieces, cX10_pieces, 1, (some .int))

def tX10_time : tf_T := [(0, .iload_n 1, 1, 0, 0),
  (1, .invokestatic 122, 4, 0, 0),
  (4, .ifCond .ne 10, 7, 14, 0),
  (7, .iload_n 2, 8, 0, 0),
  (8, .invokestatic 61, 11, 0, 0),
  (11, .ifCond .eq 9, 14, 20, 0),
  (14, .aload_n 0, 15, 0, 0),
  (15, .iconst (-1), 16, 0, (-1)),
  (16, .invokevirtual 50, 19, 0, 0),
  (19, .ireturn, 20, 0, 0),
  (20, .aload_n 0, 21, 0, 0),
  (21, .iload_n 1, 22, 0, 0),
  (22, .iload_n 2, 23, 0, 0),
  (23, .iload_n 3, 24, 0, 0),
  (24, .invokevirtual 159, 27, 0, 0),
  (27, .ireturn, 28, 0, 0)]
set_option maxRecDepth 100000 in
theorem okX10_time : tf_okT cX10_time tX10_time := by unfold tf_okT; decide +kernel
theorem ftX10_time : 1 ≤ 7 ∧ tf_okF RX10 fX10 ∧ tf_okT cX10_time tX10_time := ⟨by decide, okfX10, okX10_time⟩
def mX10_time : tf_M := (yX10_time, cX10_time, 4, (some .int))

def tX10_may : tf_T := [(0, .iload_n 1, 1, 0, 0),
  (1, .invokestatic 61, 4, 0, 0),
  (4, .ifCond .eq 9, 7, 13, 0),
  (7, .aload_n 0, 8, 0, 0),
  (8, .iconst (-1), 9, 0, (-1)),
  (9, .invokevirtual 50, 12, 0, 0),
  (12, .ireturn, 13, 0, 0),
  (13, .iconst 0, 14, 0, 0),
  (14, .istore_n 2, 15, 0, 0),
  (15, .iconst 0, 16, 0, 0),
  (16, .istore_n 3, 17, 0, 0),
  (17, .iload_n 3, 18, 0, 0),
  (18, .bipush 8, 20, 0, 8),
  (20, .if_icmp .ge 45, 23, 65, 0),
  (23, .iload_n 3, 24, 0, 0),
  (24, .aload_n 0, 25, 0, 0),
  (25, .getfield 10, 28, 0, 0),
  (28, .getfield 87, 31, 0, 0),
  (31, .aload_n 0, 32, 0, 0),
  (32, .getfield 10, 35, 0, 0),
  (35, .getfield 90, 38, 0, 0),
  (38, .aload_n 0, 39, 0, 0),
  (39, .getfield 10, 42, 0, 0),
  (42, .getfield 71, 45, 0, 0),
  (45, .iload_n 1, 46, 0, 0),
  (46, .aaload, 47, 0, 0),
  (47, .invokestatic 162, 50, 0, 0),
  (50, .ifCond .lt 9, 53, 59, 0),
  (53, .iload_n 2, 54, 0, 0),
  (54, .iconst 1, 55, 0, 1),
  (55, .iload_n 3, 56, 0, 0),
  (56, .ishl, 57, 0, 0),
  (57, .ior, 58, 0, 0),
  (58, .istore_n 2, 59, 0, 0),
  (59, .iinc 3 1, 62, 0, 1),
  (62, .goto (-45), 65, 17, 0),
  (65, .iload_n 2, 66, 0, 0),
  (66, .ireturn, 67, 0, 0)]
set_option maxRecDepth 100000 in
theorem okX10_may : tf_okT cX10_may tX10_may := by unfold tf_okT; decide +kernel
theorem ftX10_may : 1 ≤ 6 ∧ tf_okF RX10 fX10 ∧ tf_okT cX10_may tX10_may := ⟨by decide, okfX10, okX10_may⟩
def mX10_may : tf_M := (yX10_may, cX10_may, 4, (some .int))

def tX10_where : tf_T := [(0, .iload_n 1, 1, 0, 0),
  (1, .invokestatic 61, 4, 0, 0),
  (4, .ifCond .eq 9, 7, 13, 0),
  (7, .aload_n 0, 8, 0, 0),
  (8, .iconst (-1), 9, 0, (-1)),
  (9, .invokevirtual 50, 12, 0, 0),
  (12, .ireturn, 13, 0, 0),
  (13, .iload_n 2, 14, 0, 0),
  (14, .ifCond .lt 9, 17, 23, 0),
  (17, .iload_n 2, 18, 0, 0),
  (18, .bipush 8, 20, 0, 8),
  (20, .if_icmp .lt 10, 23, 30, 0),
  (23, .aload_n 0, 24, 0, 0),
  (24, .bipush (-2), 26, 0, (-2)),
  (26, .invokevirtual 50, 29, 0, 0),
  (29, .ireturn, 30, 0, 0),
  (30, .iload_n 2, 31, 0, 0),
  (31, .aload_n 0, 32, 0, 0),
  (32, .getfield 10, 35, 0, 0),
  (35, .getfield 87, 38, 0, 0),
  (38, .aload_n 0, 39, 0, 0),
  (39, .getfield 10, 42, 0, 0),
  (42, .getfield 90, 45, 0, 0),
  (45, .aload_n 0, 46, 0, 0),
  (46, .getfield 10, 49, 0, 0),
  (49, .getfield 71, 52, 0, 0),
  (52, .iload_n 1, 53, 0, 0),
  (53, .aaload, 54, 0, 0),
  (54, .invokestatic 162, 57, 0, 0),
  (57, .ireturn, 58, 0, 0)]
set_option maxRecDepth 100000 in
theorem okX10_where : tf_okT cX10_where tX10_where := by unfold tf_okT; decide +kernel
theorem ftX10_where : 1 ≤ 6 ∧ tf_okF RX10 fX10 ∧ tf_okT cX10_where tX10_where := ⟨by decide, okfX10, okX10_where⟩
def mX10_where : tf_M := (yX10_where, cX10_where, 3, (some .int))

def tX10_exchange : tf_T := [(0, .iload_n 1, 1, 0, 0),
  (1, .invokestatic 61, 4, 0, 0),
  (4, .ifCond .ne 22, 7, 26, 0),
  (7, .iload_n 2, 8, 0, 0),
  (8, .invokestatic 110, 11, 0, 0),
  (11, .ifCond .ne 15, 14, 26, 0),
  (14, .iload_n 3, 15, 0, 0),
  (15, .invokestatic 110, 18, 0, 0),
  (18, .ifCond .ne 8, 21, 26, 0),
  (21, .iload_n 2, 22, 0, 0),
  (22, .iload_n 3, 23, 0, 0),
  (23, .if_icmp .ne 9, 26, 32, 0),
  (26, .aload_n 0, 27, 0, 0),
  (27, .iconst (-1), 28, 0, (-1)),
  (28, .invokevirtual 50, 31, 0, 0),
  (31, .ireturn, 32, 0, 0),
  (32, .aload_n 0, 33, 0, 0),
  (33, .getfield 10, 36, 0, 0),
  (36, .getfield 71, 39, 0, 0),
  (39, .iload_n 1, 40, 0, 0),
  (40, .aaload, 41, 0, 0),
  (41, .iload_n 2, 42, 0, 0),
  (42, .iload_n 3, 43, 0, 0),
  (43, .invokevirtual 168, 46, 0, 0),
  (46, .iconst 1, 47, 0, 1),
  (47, .ireturn, 48, 0, 0)]
set_option maxRecDepth 100000 in
theorem okX10_exchange : tf_okT cX10_exchange tX10_exchange := by unfold tf_okT; decide +kernel
theorem ftX10_exchange : 1 ≤ 4 ∧ tf_okF RX10 fX10 ∧ tf_okT cX10_exchange tX10_exchange := ⟨by decide, okfX10, okX10_exchange⟩
def mX10_exchange : tf_M := (yX10_exchange, cX10_exchange, 4, (some .int))

def tX10_better : tf_T := [(0, .iload_n 1, 1, 0, 0),
  (1, .invokestatic 122, 4, 0, 0),
  (4, .ifCond .ne 10, 7, 14, 0),
  (7, .iload_n 2, 8, 0, 0),
  (8, .invokestatic 61, 11, 0, 0),
  (11, .ifCond .eq 9, 14, 20, 0),
  (14, .aload_n 0, 15, 0, 0),
  (15, .iconst (-1), 16, 0, (-1)),
  (16, .invokevirtual 50, 19, 0, 0),
  (19, .ireturn, 20, 0, 0),
  (20, .aload_n 0, 21, 0, 0),
  (21, .getfield 31, 24, 0, 0),
  (24, .aload_n 0, 25, 0, 0),
  (25, .getfield 10, 28, 0, 0),
  (28, .getfield 87, 31, 0, 0),
  (31, .aload_n 0, 32, 0, 0),
  (32, .getfield 10, 35, 0, 0),
  (35, .getfield 97, 38, 0, 0),
  (38, .invokevirtual 145, 41, 0, 0),
  (41, .aload_n 0, 42, 0, 0),
  (42, .iload_n 1, 43, 0, 0),
  (43, .iload_n 2, 44, 0, 0),
  (44, .invokevirtual 172, 47, 0, 0),
  (47, .ireturn, 48, 0, 0)]
set_option maxRecDepth 100000 in
theorem okX10_better : tf_okT cX10_better tX10_better := by unfold tf_okT; decide +kernel
theorem ftX10_better : 1 ≤ 7 ∧ tf_okF RX10 fX10 ∧ tf_okT cX10_better tX10_better := ⟨by decide, okfX10, okX10_better⟩
def mX10_better : tf_M := (yX10_better, cX10_better, 3, (some .int))

def tX10_climb : tf_T := [(0, .iload_n 1, 1, 0, 0),
  (1, .invokestatic 122, 4, 0, 0),
  (4, .ifCond .ne 10, 7, 14, 0),
  (7, .iload_n 2, 8, 0, 0),
  (8, .invokestatic 61, 11, 0, 0),
  (11, .ifCond .eq 9, 14, 20, 0),
  (14, .aload_n 0, 15, 0, 0),
  (15, .iconst (-1), 16, 0, (-1)),
  (16, .invokevirtual 50, 19, 0, 0),
  (19, .ireturn, 20, 0, 0),
  (20, .iload_n 3, 21, 0, 0),
  (21, .iconst 1, 22, 0, 1),
  (22, .if_icmp .ge 10, 25, 32, 0),
  (25, .aload_n 0, 26, 0, 0),
  (26, .bipush (-4), 28, 0, (-4)),
  (28, .invokevirtual 50, 31, 0, 0),
  (31, .ireturn, 32, 0, 0),
  (32, .iload_n 3, 33, 0, 0),
  (33, .iconst 5, 34, 0, 5),
  (34, .if_icmp .le 10, 37, 44, 0),
  (37, .aload_n 0, 38, 0, 0),
  (38, .bipush (-6), 40, 0, (-6)),
  (40, .invokevirtual 50, 43, 0, 0),
  (43, .ireturn, 44, 0, 0),
  (44, .aload_n 0, 45, 0, 0),
  (45, .getfield 31, 48, 0, 0),
  (48, .aload_n 0, 49, 0, 0),
  (49, .getfield 10, 52, 0, 0),
  (52, .getfield 87, 55, 0, 0),
  (55, .aload_n 0, 56, 0, 0),
  (56, .getfield 10, 59, 0, 0),
  (59, .getfield 97, 62, 0, 0),
  (62, .invokevirtual 145, 65, 0, 0),
  (65, .iconst 0, 66, 0, 0),
  (66, .istore 4, 68, 0, 0),
  (68, .iload 4, 70, 0, 0),
  (70, .iload_n 3, 71, 0, 0),
  (71, .if_icmp .ge 47, 74, 118, 0),
  (74, .aload_n 0, 75, 0, 0),
  (75, .iload_n 1, 76, 0, 0),
  (76, .iload_n 2, 77, 0, 0),
  (77, .invokevirtual 172, 80, 0, 0),
  (80, .istore 5, 82, 0, 0),
  (82, .iload 5, 84, 0, 0),
  (84, .ifCond .ge 6, 87, 90, 0),
  (87, .iload 4, 89, 0, 0),
  (89, .ireturn, 90, 0, 0),
  (90, .aload_n 0, 91, 0, 0),
  (91, .getfield 10, 94, 0, 0),
  (94, .getfield 71, 97, 0, 0),
  (97, .iload_n 2, 98, 0, 0),
  (98, .aaload, 99, 0, 0),
  (99, .iload 5, 101, 0, 0),
  (101, .bipush 100, 103, 0, 100),
  (103, .idiv, 104, 0, 0),
  (104, .iload 5, 106, 0, 0),
  (106, .bipush 100, 108, 0, 100),
  (108, .irem, 109, 0, 0),
  (109, .invokevirtual 168, 112, 0, 0),
  (112, .iinc 4 1, 115, 0, 1),
  (115, .goto (-47), 118, 68, 0),
  (118, .iload_n 3, 119, 0, 0),
  (119, .ireturn, 120, 0, 0)]
set_option maxRecDepth 100000 in
theorem okX10_climb : tf_okT cX10_climb tX10_climb := by unfold tf_okT; decide +kernel
theorem ftX10_climb : 1 ≤ 7 ∧ tf_okF RX10 fX10 ∧ tf_okT cX10_climb tX10_climb := ⟨by decide, okfX10, okX10_climb⟩
def mX10_climb : tf_M := (yX10_climb, cX10_climb, 6, (some .int))

def tX10_summer : tf_T := [(0, .iload_n 1, 1, 0, 0),
  (1, .ifCond .lt 13, 4, 14, 0),
  (4, .iload_n 2, 5, 0, 0),
  (5, .iconst 1, 6, 0, 1),
  (6, .if_icmp .lt 8, 9, 14, 0),
  (9, .iload_n 3, 10, 0, 0),
  (10, .iconst 1, 11, 0, 1),
  (11, .if_icmp .ge 10, 14, 21, 0),
  (14, .aload_n 0, 15, 0, 0),
  (15, .bipush (-4), 17, 0, (-4)),
  (17, .invokevirtual 50, 20, 0, 0),
  (20, .ireturn, 21, 0, 0),
  (21, .iload_n 1, 22, 0, 0),
  (22, .bipush 99, 24, 0, 99),
  (24, .if_icmp .gt 15, 27, 39, 0),
  (27, .iload_n 2, 28, 0, 0),
  (28, .bipush 50, 30, 0, 50),
  (30, .if_icmp .gt 9, 33, 39, 0),
  (33, .iload_n 3, 34, 0, 0),
  (34, .bipush 50, 36, 0, 50),
  (36, .if_icmp .le 10, 39, 46, 0),
  (39, .aload_n 0, 40, 0, 0),
  (40, .bipush (-6), 42, 0, (-6)),
  (42, .invokevirtual 50, 45, 0, 0),
  (45, .ireturn, 46, 0, 0),
  (46, .iconst 0, 47, 0, 0),
  (47, .istore 4, 49, 0, 0),
  (49, .iconst 0, 50, 0, 0),
  (50, .istore 5, 52, 0, 0),
  (52, .iload 5, 54, 0, 0),
  (54, .sipush 999, 57, 0, 999),
  (57, .if_icmp .ge 42, 60, 99, 0),
  (60, .iload 4, 62, 0, 0),
  (62, .iload_n 1, 63, 0, 0),
  (63, .iload_n 2, 64, 0, 0),
  (64, .iload 5, 66, 0, 0),
  (66, .imul, 67, 0, 0),
  (67, .iadd, 68, 0, 0),
  (68, .bipush 100, 70, 0, 100),
  (70, .iload_n 3, 71, 0, 0),
  (71, .iadd, 72, 0, 0),
  (72, .invokestatic 175, 75, 0, 0),
  (75, .iadd, 76, 0, 0),
  (76, .istore 4, 78, 0, 0),
  (78, .iload 4, 80, 0, 0),
  (80, .bipush 100, 82, 0, 100),
  (82, .iload 5, 84, 0, 0),
  (84, .iconst 1, 85, 0, 1),
  (85, .iadd, 86, 0, 0),
  (86, .imul, 87, 0, 0),
  (87, .if_icmp .lt 6, 90, 93, 0),
  (90, .iload 5, 92, 0, 0),
  (92, .ireturn, 93, 0, 0),
  (93, .iinc 5 1, 96, 0, 1),
  (96, .goto (-44), 99, 52, 0),
  (99, .bipush (-9), 101, 0, (-9)),
  (101, .ireturn, 102, 0, 0)]
set_option maxRecDepth 100000 in
theorem okX10_summer : tf_okT cX10_summer tX10_summer := by unfold tf_okT; decide +kernel
theorem ftX10_summer : 1 ≤ 2 ∧ tf_okF RX10 fX10 ∧ tf_okT cX10_summer tX10_summer := ⟨by decide, okfX10, okX10_summer⟩
def mX10_summer : tf_M := (yX10_summer, cX10_summer, 6, (some .int))

def tX10_put : tf_T := [(0, .iload_n 1, 1, 0, 0),
  (1, .ifCond .ge 10, 4, 11, 0),
  (4, .aload_n 0, 5, 0, 0),
  (5, .bipush (-4), 7, 0, (-4)),
  (7, .invokevirtual 50, 10, 0, 0),
  (10, .ireturn, 11, 0, 0),
  (11, .iload_n 1, 12, 0, 0),
  (12, .sipush 9999, 15, 0, 9999),
  (15, .if_icmp .gt 18, 18, 33, 0),
  (18, .aload_n 0, 19, 0, 0),
  (19, .getfield 10, 22, 0, 0),
  (22, .getfield 180, 25, 0, 0),
  (25, .invokevirtual 54, 28, 0, 0),
  (28, .bipush 40, 30, 0, 40),
  (30, .if_icmp .lt 10, 33, 40, 0),
  (33, .aload_n 0, 34, 0, 0),
  (34, .bipush (-6), 36, 0, (-6)),
  (36, .invokevirtual 50, 39, 0, 0),
  (39, .ireturn, 40, 0, 0),
  (40, .aload_n 0, 41, 0, 0),
  (41, .getfield 10, 44, 0, 0),
  (44, .getfield 180, 47, 0, 0),
  (47, .iload_n 1, 48, 0, 0),
  (48, .invokevirtual 58, 51, 0, 0),
  (51, .aload_n 0, 52, 0, 0),
  (52, .getfield 10, 55, 0, 0),
  (55, .getfield 180, 58, 0, 0),
  (58, .invokevirtual 54, 61, 0, 0),
  (61, .ireturn, 62, 0, 0)]
set_option maxRecDepth 100000 in
theorem okX10_put : tf_okT cX10_put tX10_put := by unfold tf_okT; decide +kernel
theorem ftX10_put : 1 ≤ 2 ∧ tf_okF RX10 fX10 ∧ tf_okT cX10_put tX10_put := ⟨by decide, okfX10, okX10_put⟩
def mX10_put : tf_M := (yX10_put, cX10_put, 2, (some .int))

def tX10_unput : tf_T := [(0, .aload_n 0, 1, 0, 0),
  (1, .getfield 10, 4, 0, 0),
  (4, .getfield 180, 7, 0, 0),
  (7, .invokevirtual 54, 10, 0, 0),
  (10, .istore_n 1, 11, 0, 0),
  (11, .aload_n 0, 12, 0, 0),
  (12, .getfield 10, 15, 0, 0),
  (15, .getfield 180, 18, 0, 0),
  (18, .invokevirtual 80, 21, 0, 0),
  (21, .iload_n 1, 22, 0, 0),
  (22, .ireturn, 23, 0, 0)]
set_option maxRecDepth 100000 in
theorem okX10_unput : tf_okT cX10_unput tX10_unput := by unfold tf_okT; decide +kernel
theorem ftX10_unput : 1 ≤ 2 ∧ tf_okF RX10 fX10 ∧ tf_okT cX10_unput tX10_unput := ⟨by decide, okfX10, okX10_unput⟩
def mX10_unput : tf_M := (yX10_unput, cX10_unput, 2, (some .int))

def tX10_far : tf_T := [(0, .iload_n 1, 1, 0, 0),
  (1, .invokestatic 122, 4, 0, 0),
  (4, .ifCond .ne 10, 7, 14, 0),
  (7, .iload_n 2, 8, 0, 0),
  (8, .invokestatic 61, 11, 0, 0),
  (11, .ifCond .eq 9, 14, 20, 0),
  (14, .aload_n 0, 15, 0, 0),
  (15, .iconst (-1), 16, 0, (-1)),
  (16, .invokevirtual 50, 19, 0, 0),
  (19, .ireturn, 20, 0, 0),
  (20, .aload_n 0, 21, 0, 0),
  (21, .getfield 38, 24, 0, 0),
  (24, .aload_n 0, 25, 0, 0),
  (25, .getfield 10, 28, 0, 0),
  (28, .getfield 87, 31, 0, 0),
  (31, .aload_n 0, 32, 0, 0),
  (32, .getfield 10, 35, 0, 0),
  (35, .getfield 71, 38, 0, 0),
  (38, .iload_n 2, 39, 0, 0),
  (39, .aaload, 40, 0, 0),
  (40, .invokevirtual 183, 43, 0, 0),
  (43, .aload_n 0, 44, 0, 0),
  (44, .getfield 38, 47, 0, 0),
  (47, .aload_n 0, 48, 0, 0),
  (48, .getfield 10, 51, 0, 0),
  (51, .getfield 180, 54, 0, 0),
  (54, .aload_n 0, 55, 0, 0),
  (55, .getfield 10, 58, 0, 0),
  (58, .getfield 125, 61, 0, 0),
  (61, .iload_n 1, 62, 0, 0),
  (62, .aaload, 63, 0, 0),
  (63, .invokevirtual 187, 66, 0, 0),
  (66, .ireturn, 67, 0, 0)]
set_option maxRecDepth 100000 in
theorem okX10_far : tf_okT cX10_far tX10_far := by unfold tf_okT; decide +kernel
theorem ftX10_far : 1 ≤ 7 ∧ tf_okF RX10 fX10 ∧ tf_okT cX10_far tX10_far := ⟨by decide, okfX10, okX10_far⟩
def mX10_far : tf_M := (yX10_far, cX10_far, 3, (some .int))

def tX10_nearest : tf_T := [(0, .iload_n 1, 1, 0, 0),
  (1, .invokestatic 61, 4, 0, 0),
  (4, .ifCond .eq 9, 7, 13, 0),
  (7, .aload_n 0, 8, 0, 0),
  (8, .iconst (-1), 9, 0, (-1)),
  (9, .invokevirtual 50, 12, 0, 0),
  (12, .ireturn, 13, 0, 0),
  (13, .aload_n 0, 14, 0, 0),
  (14, .getfield 10, 17, 0, 0),
  (17, .getfield 180, 20, 0, 0),
  (20, .invokevirtual 54, 23, 0, 0),
  (23, .aload_n 0, 24, 0, 0),
  (24, .getfield 10, 27, 0, 0),
  (27, .getfield 87, 30, 0, 0),
  (30, .invokevirtual 54, 33, 0, 0),
  (33, .if_icmp .eq 6, 36, 39, 0),
  (36, .bipush (-9), 38, 0, (-9)),
  (38, .ireturn, 39, 0, 0),
  (39, .aload_n 0, 40, 0, 0),
  (40, .getfield 38, 43, 0, 0),
  (43, .aload_n 0, 44, 0, 0),
  (44, .getfield 10, 47, 0, 0),
  (47, .getfield 87, 50, 0, 0),
  (50, .aload_n 0, 51, 0, 0),
  (51, .getfield 10, 54, 0, 0),
  (54, .getfield 71, 57, 0, 0),
  (57, .iload_n 1, 58, 0, 0),
  (58, .aaload, 59, 0, 0),
  (59, .invokevirtual 183, 62, 0, 0),
  (62, .aload_n 0, 63, 0, 0),
  (63, .invokevirtual 191, 66, 0, 0),
  (66, .ireturn, 67, 0, 0)]
set_option maxRecDepth 100000 in
theorem okX10_nearest : tf_okT cX10_nearest tX10_nearest := by unfold tf_okT; decide +kernel
theorem ftX10_nearest : 1 ≤ 8 ∧ tf_okF RX10 fX10 ∧ tf_okT cX10_nearest tX10_nearest := ⟨by decide, okfX10, okX10_nearest⟩
def mX10_nearest : tf_M := (yX10_nearest, cX10_nearest, 2, (some .int))

def tX10_span : tf_T := [(0, .iload_n 1, 1, 0, 0),
  (1, .invokestatic 61, 4, 0, 0),
  (4, .ifCond .eq 9, 7, 13, 0),
  (7, .aload_n 0, 8, 0, 0),
  (8, .iconst (-1), 9, 0, (-1)),
  (9, .invokevirtual 50, 12, 0, 0),
  (12, .ireturn, 13, 0, 0),
  (13, .iload_n 2, 14, 0, 0),
  (14, .ifCond .lt 8, 17, 22, 0),
  (17, .iload_n 2, 18, 0, 0),
  (18, .iconst 2, 19, 0, 2),
  (19, .if_icmp .le 10, 22, 29, 0),
  (22, .aload_n 0, 23, 0, 0),
  (23, .bipush (-2), 25, 0, (-2)),
  (25, .invokevirtual 50, 28, 0, 0),
  (28, .ireturn, 29, 0, 0),
  (29, .aload_n 0, 30, 0, 0),
  (30, .getfield 38, 33, 0, 0),
  (33, .aload_n 0, 34, 0, 0),
  (34, .getfield 10, 37, 0, 0),
  (37, .getfield 87, 40, 0, 0),
  (40, .aload_n 0, 41, 0, 0),
  (41, .getfield 10, 44, 0, 0),
  (44, .getfield 71, 47, 0, 0),
  (47, .iload_n 1, 48, 0, 0),
  (48, .aaload, 49, 0, 0),
  (49, .invokevirtual 183, 52, 0, 0),
  (52, .aload_n 0, 53, 0, 0),
  (53, .getfield 38, 56, 0, 0),
  (56, .aload_n 0, 57, 0, 0),
  (57, .getfield 10, 60, 0, 0),
  (60, .getfield 180, 63, 0, 0),
  (63, .iload_n 2, 64, 0, 0),
  (64, .iload_n 3, 65, 0, 0),
  (65, .invokevirtual 194, 68, 0, 0),
  (68, .ireturn, 69, 0, 0)]
set_option maxRecDepth 100000 in
theorem okX10_span : tf_okT cX10_span tX10_span := by unfold tf_okT; decide +kernel
theorem ftX10_span : 1 ≤ 6 ∧ tf_okF RX10 fX10 ∧ tf_okT cX10_span tX10_span := ⟨by decide, okfX10, okX10_span⟩
def mX10_span : tf_M := (yX10_span, cX10_span, 4, (some .int))

def tX10_ache : tf_T := [(0, .iload_n 1, 1, 0, 0),
  (1, .invokestatic 61, 4, 0, 0),
  (4, .ifCond .ne 13, 7, 17, 0),
  (7, .iload_n 2, 8, 0, 0),
  (8, .ifCond .lt 9, 11, 17, 0),
  (11, .iload_n 2, 12, 0, 0),
  (12, .bipush 8, 14, 0, 8),
  (14, .if_icmp .lt 9, 17, 23, 0),
  (17, .aload_n 0, 18, 0, 0),
  (18, .iconst (-1), 19, 0, (-1)),
  (19, .invokevirtual 50, 22, 0, 0),
  (22, .ireturn, 23, 0, 0),
  (23, .aload_n 0, 24, 0, 0),
  (24, .getfield 38, 27, 0, 0),
  (27, .aload_n 0, 28, 0, 0),
  (28, .getfield 10, 31, 0, 0),
  (31, .getfield 87, 34, 0, 0),
  (34, .aload_n 0, 35, 0, 0),
  (35, .getfield 10, 38, 0, 0),
  (38, .getfield 71, 41, 0, 0),
  (41, .iload_n 1, 42, 0, 0),
  (42, .aaload, 43, 0, 0),
  (43, .invokevirtual 183, 46, 0, 0),
  (46, .aload_n 0, 47, 0, 0),
  (47, .getfield 38, 50, 0, 0),
  (50, .iload_n 2, 51, 0, 0),
  (51, .invokevirtual 198, 54, 0, 0),
  (54, .ireturn, 55, 0, 0)]
set_option maxRecDepth 100000 in
theorem okX10_ache : tf_okT cX10_ache tX10_ache := by unfold tf_okT; decide +kernel
theorem ftX10_ache : 1 ≤ 6 ∧ tf_okF RX10 fX10 ∧ tf_okT cX10_ache tX10_ache := ⟨by decide, okfX10, okX10_ache⟩
def mX10_ache : tf_M := (yX10_ache, cX10_ache, 3, (some .int))

def tX10_pauses : tf_T := [(0, .iload_n 1, 1, 0, 0),
  (1, .invokestatic 61, 4, 0, 0),
  (4, .ifCond .eq 9, 7, 13, 0),
  (7, .aload_n 0, 8, 0, 0),
  (8, .iconst (-1), 9, 0, (-1)),
  (9, .invokevirtual 50, 12, 0, 0),
  (12, .ireturn, 13, 0, 0),
  (13, .iload_n 2, 14, 0, 0),
  (14, .iconst 1, 15, 0, 1),
  (15, .if_icmp .lt 7, 18, 22, 0),
  (18, .iload_n 3, 19, 0, 0),
  (19, .ifCond .ge 10, 22, 29, 0),
  (22, .aload_n 0, 23, 0, 0),
  (23, .bipush (-4), 25, 0, (-4)),
  (25, .invokevirtual 50, 28, 0, 0),
  (28, .ireturn, 29, 0, 0),
  (29, .iload_n 2, 30, 0, 0),
  (30, .sipush 999, 33, 0, 999),
  (33, .if_icmp .gt 10, 36, 43, 0),
  (36, .iload_n 3, 37, 0, 0),
  (37, .sipush 999, 40, 0, 999),
  (40, .if_icmp .le 10, 43, 50, 0),
  (43, .aload_n 0, 44, 0, 0),
  (44, .bipush (-6), 46, 0, (-6)),
  (46, .invokevirtual 50, 49, 0, 0),
  (49, .ireturn, 50, 0, 0),
  (50, .aload_n 0, 51, 0, 0),
  (51, .getfield 38, 54, 0, 0),
  (54, .aload_n 0, 55, 0, 0),
  (55, .getfield 10, 58, 0, 0),
  (58, .getfield 87, 61, 0, 0),
  (61, .aload_n 0, 62, 0, 0),
  (62, .getfield 10, 65, 0, 0),
  (65, .getfield 71, 68, 0, 0),
  (68, .iload_n 1, 69, 0, 0),
  (69, .aaload, 70, 0, 0),
  (70, .invokevirtual 183, 73, 0, 0),
  (73, .aload_n 0, 74, 0, 0),
  (74, .getfield 38, 77, 0, 0),
  (77, .iload_n 2, 78, 0, 0),
  (78, .iload_n 3, 79, 0, 0),
  (79, .invokevirtual 201, 82, 0, 0),
  (82, .ireturn, 83, 0, 0)]
set_option maxRecDepth 100000 in
theorem okX10_pauses : tf_okT cX10_pauses tX10_pauses := by unfold tf_okT; decide +kernel
theorem ftX10_pauses : 1 ≤ 6 ∧ tf_okF RX10 fX10 ∧ tf_okT cX10_pauses tX10_pauses := ⟨by decide, okfX10, okX10_pauses⟩
def mX10_pauses : tf_M := (yX10_pauses, cX10_pauses, 4, (some .int))

def tX10_pace : tf_T := [(0, .iload_n 1, 1, 0, 0),
  (1, .invokestatic 122, 4, 0, 0),
  (4, .ifCond .ne 10, 7, 14, 0),
  (7, .iload_n 2, 8, 0, 0),
  (8, .invokestatic 61, 11, 0, 0),
  (11, .ifCond .eq 9, 14, 20, 0),
  (14, .aload_n 0, 15, 0, 0),
  (15, .iconst (-1), 16, 0, (-1)),
  (16, .invokevirtual 50, 19, 0, 0),
  (19, .ireturn, 20, 0, 0),
  (20, .iload_n 3, 21, 0, 0),
  (21, .iconst 1, 22, 0, 1),
  (22, .if_icmp .lt 8, 25, 30, 0),
  (25, .iload 4, 27, 0, 0),
  (27, .ifCond .ge 10, 30, 37, 0),
  (30, .aload_n 0, 31, 0, 0),
  (31, .bipush (-4), 33, 0, (-4)),
  (33, .invokevirtual 50, 36, 0, 0),
  (36, .ireturn, 37, 0, 0),
  (37, .iload_n 3, 38, 0, 0),
  (38, .bipush 9, 40, 0, 9),
  (40, .if_icmp .gt 11, 43, 51, 0),
  (43, .iload 4, 45, 0, 0),
  (45, .sipush 9999, 48, 0, 9999),
  (48, .if_icmp .le 10, 51, 58, 0),
  (51, .aload_n 0, 52, 0, 0),
  (52, .bipush (-6), 54, 0, (-6)),
  (54, .invokevirtual 50, 57, 0, 0),
  (57, .ireturn, 58, 0, 0),
  (58, .aload_n 0, 59, 0, 0),
  (59, .aload_n 0, 60, 0, 0),
  (60, .iload_n 1, 61, 0, 0),
  (61, .iload_n 2, 62, 0, 0),
  (62, .iconst 0, 63, 0, 0),
  (63, .invokevirtual 159, 66, 0, 0),
  (66, .iload_n 3, 67, 0, 0),
  (67, .iload 4, 69, 0, 0),
  (69, .invokevirtual 204, 72, 0, 0),
  (72, .ireturn, 73, 0, 0)]
set_option maxRecDepth 100000 in
theorem okX10_pace : tf_okT cX10_pace tX10_pace := by unfold tf_okT; decide +kernel
theorem ftX10_pace : 1 ≤ 7 ∧ tf_okF RX10 fX10 ∧ tf_okT cX10_pace tX10_pace := ⟨by decide, okfX10, okX10_pace⟩
def mX10_pace : tf_M := (yX10_pace, cX10_pace, 5, (some .int))

def tX10_soonest : tf_T := [(0, .iload_n 1, 1, 0, 0),
  (1, .invokestatic 122, 4, 0, 0),
  (4, .ifCond .ne 10, 7, 14, 0),
  (7, .iload_n 2, 8, 0, 0),
  (8, .invokestatic 61, 11, 0, 0),
  (11, .ifCond .eq 9, 14, 20, 0),
  (14, .aload_n 0, 15, 0, 0),
  (15, .iconst (-1), 16, 0, (-1)),
  (16, .invokevirtual 50, 19, 0, 0),
  (19, .ireturn, 20, 0, 0),
  (20, .iload_n 3, 21, 0, 0),
  (21, .ifCond .ge 10, 24, 31, 0),
  (24, .aload_n 0, 25, 0, 0),
  (25, .bipush (-4), 27, 0, (-4)),
  (27, .invokevirtual 50, 30, 0, 0),
  (30, .ireturn, 31, 0, 0),
  (31, .iload_n 3, 32, 0, 0),
  (32, .sipush 9999, 35, 0, 9999),
  (35, .if_icmp .le 10, 38, 45, 0),
  (38, .aload_n 0, 39, 0, 0),
  (39, .bipush (-6), 41, 0, (-6)),
  (41, .invokevirtual 50, 44, 0, 0),
  (44, .ireturn, 45, 0, 0),
  (45, .aload_n 0, 46, 0, 0),
  (46, .iload_n 1, 47, 0, 0),
  (47, .iload_n 2, 48, 0, 0),
  (48, .iconst 0, 49, 0, 0),
  (49, .invokevirtual 159, 52, 0, 0),
  (52, .istore 4, 54, 0, 0),
  (54, .iconst 1, 55, 0, 1),
  (55, .istore 5, 57, 0, 0),
  (57, .aload_n 0, 58, 0, 0),
  (58, .iload 4, 60, 0, 0),
  (60, .iload 5, 62, 0, 0),
  (62, .iload_n 3, 63, 0, 0),
  (63, .invokevirtual 204, 66, 0, 0),
  (66, .istore 6, 68, 0, 0),
  (68, .iconst 2, 69, 0, 2),
  (69, .istore 7, 71, 0, 0),
  (71, .iload 7, 73, 0, 0),
  (73, .bipush 9, 75, 0, 9),
  (75, .if_icmp .gt 35, 78, 110, 0),
  (78, .aload_n 0, 79, 0, 0),
  (79, .iload 4, 81, 0, 0),
  (81, .iload 7, 83, 0, 0),
  (83, .iload_n 3, 84, 0, 0),
  (84, .invokevirtual 204, 87, 0, 0),
  (87, .istore 8, 89, 0, 0),
  (89, .iload 8, 91, 0, 0),
  (91, .iload 6, 93, 0, 0),
  (93, .if_icmp .ge 11, 96, 104, 0),
  (96, .iload 8, 98, 0, 0),
  (98, .istore 6, 100, 0, 0),
  (100, .iload 7, 102, 0, 0),
  (102, .istore 5, 104, 0, 0),
  (104, .iinc 7 1, 107, 0, 1),
  (107, .goto (-36), 110, 71, 0),
  (110, .iload 5, 112, 0, 0),
  (112, .ireturn, 113, 0, 0)]
set_option maxRecDepth 100000 in
theorem okX10_soonest : tf_okT cX10_soonest tX10_soonest := by unfold tf_okT; decide +kernel
theorem ftX10_soonest : 1 ≤ 7 ∧ tf_okF RX10 fX10 ∧ tf_okT cX10_soonest tX10_soonest := ⟨by decide, okfX10, okX10_soonest⟩
def mX10_soonest : tf_M := (yX10_soonest, cX10_soonest, 9, (some .int))

def tX10_image : tf_T := [(0, .aload_n 0, 1, 0, 0),
  (1, .getfield 16, 4, 0, 0),
  (4, .aload_n 0, 5, 0, 0),
  (5, .getfield 10, 8, 0, 0),
  (8, .invokevirtual 208, 11, 0, 0),
  (11, .aload_n 0, 12, 0, 0),
  (12, .iconst 1, 13, 0, 1),
  (13, .putfield 46, 16, 0, 0),
  (16, .aload_n 0, 17, 0, 0),
  (17, .getfield 10, 20, 0, 0),
  (20, .getfield 97, 23, 0, 0),
  (23, .invokevirtual 101, 26, 0, 0),
  (26, .ireturn, 27, 0, 0)]
set_option maxRecDepth 100000 in
theorem okX10_image : tf_okT cX10_image tX10_image := by unfold tf_okT; decide +kernel
theorem ftX10_image : 1 ≤ 5 ∧ tf_okF RX10 fX10 ∧ tf_okT cX10_image tX10_image := ⟨by decide, okfX10, okX10_image⟩
def mX10_image : tf_M := (yX10_image, cX10_image, 1, (some .int))

def tX10_on : tf_T := [(0, .aload_n 0, 1, 0, 0),
  (1, .getfield 46, 4, 0, 0),
  (4, .ifCond .ne 10, 7, 14, 0),
  (7, .aload_n 0, 8, 0, 0),
  (8, .bipush (-3), 10, 0, (-3)),
  (10, .invokevirtual 50, 13, 0, 0),
  (13, .ireturn, 14, 0, 0),
  (14, .aload_n 0, 15, 0, 0),
  (15, .getfield 10, 18, 0, 0),
  (18, .aload_n 0, 19, 0, 0),
  (19, .getfield 16, 22, 0, 0),
  (22, .invokevirtual 208, 25, 0, 0),
  (25, .aload_n 0, 26, 0, 0),
  (26, .getfield 10, 29, 0, 0),
  (29, .getfield 97, 32, 0, 0),
  (32, .invokevirtual 101, 35, 0, 0),
  (35, .ireturn, 36, 0, 0)]
set_option maxRecDepth 100000 in
theorem okX10_on : tf_okT cX10_on tX10_on := by unfold tf_okT; decide +kernel
theorem ftX10_on : 1 ≤ 5 ∧ tf_okF RX10 fX10 ∧ tf_okT cX10_on tX10_on := ⟨by decide, okfX10, okX10_on⟩
def mX10_on : tf_M := (yX10_on, cX10_on, 1, (some .int))

def tX10_count : tf_T := [(0, .iload_n 1, 1, 0, 0),
  (1, .tableswitch 87 0 4 #[35, 46, 57, 68, 79], 36, 0, 0),
  (36, .aload_n 0, 37, 0, 0),
  (37, .getfield 10, 40, 0, 0),
  (40, .getfield 87, 43, 0, 0),
  (43, .invokevirtual 54, 46, 0, 0),
  (46, .ireturn, 47, 0, 0),
  (47, .aload_n 0, 48, 0, 0),
  (48, .getfield 10, 51, 0, 0),
  (51, .getfield 90, 54, 0, 0),
  (54, .invokevirtual 54, 57, 0, 0),
  (57, .ireturn, 58, 0, 0),
  (58, .aload_n 0, 59, 0, 0),
  (59, .getfield 10, 62, 0, 0),
  (62, .getfield 97, 65, 0, 0),
  (65, .invokevirtual 101, 68, 0, 0),
  (68, .ireturn, 69, 0, 0),
  (69, .aload_n 0, 70, 0, 0),
  (70, .getfield 10, 73, 0, 0),
  (73, .getfield 180, 76, 0, 0),
  (76, .invokevirtual 54, 79, 0, 0),
  (79, .ireturn, 80, 0, 0),
  (80, .aload_n 0, 81, 0, 0),
  (81, .getfield 24, 84, 0, 0),
  (84, .invokevirtual 54, 87, 0, 0),
  (87, .ireturn, 88, 0, 0),
  (88, .aload_n 0, 89, 0, 0),
  (89, .iload_n 1, 90, 0, 0),
  (90, .invokevirtual 212, 93, 0, 0),
  (93, .ireturn, 94, 0, 0)]
set_option maxRecDepth 100000 in
theorem okX10_count : tf_okT cX10_count tX10_count := by unfold tf_okT; decide +kernel
theorem ftX10_count : 1 ≤ 2 ∧ tf_okF RX10 fX10 ∧ tf_okT cX10_count tX10_count := ⟨by decide, okfX10, okX10_count⟩
def mX10_count : tf_M := (yX10_count, cX10_count, 2, (some .int))

set_option maxHeartbeats 2000000 in
theorem c_keyOf {N : Nat} {S : tf_Sg} {A : tf_A} (b l : Int32) (hA : tf_okA A) (hC : tf_cs S A)  : tf_cpq mX10_keyOf 2 N S [.ref 4, .int b, .int l] (s_keyOf A b l) := by
  obtain ⟨hg, hb, hA3, hA4, hA5, hA6⟩ := id hA
  obtain ⟨h1j, hS, hK5, ⟨hT1, hT2⟩, hRf, hIm⟩ := id hC
  obtain ⟨⟨g1, g2, g3, g4⟩, g5, g6, g7, g8, g9, g10, g11⟩ := id hg
  unfold s_keyOf
  by_cases c0 : ¬ b < 0 ∧ ¬ 4 ≤ b
  · by_cases c1 : ¬ l < 0 ∧ ¬ 26 ≤ l
    · rw [if_pos ⟨c0, c1⟩]
      obtain ⟨b1, b1_lt, b1_eq, b1_cl⟩ := tf_ok_nI (N := 4) (show tf_ok b _ from c0) rfl (by decide)
      try rw [b1_cl]
      obtain ⟨l1, l1_lt, l1_eq, l1_cl⟩ := tf_ok_nI (N := 26) (show tf_ok l _ from c1) rfl (by decide)
      try rw [l1_cl]
      subst b1_eq
      subst l1_eq
      refine ⟨S, tf_Fn_of (own := RX10) false ⟨by decide, rfl, by decide⟩ (Nat.le_of_ble_eq_true rfl) trivial (fun x hx hR => ?_), hC, fc_id⟩
      show tf_K x 0 0 (tf_GG N) S 0 [some (.ref 4), some (.int (nI b1)), some (.int (nI l1))] []
      refine tf_go hx ftX10_keyOf 1 [] 1 [some (.ref 4), some (.int (nI b1)), some (.int (nI l1))] [.int (nI b1)] S rfl ⟨by decide, by decide, rfl⟩ trivial ?_
      refine tf_cS hx ftX10_keyOf (nx := 4) (As := [.int (nI b1)]) (rest := []) (st2 := [.int (if ¬ (nI b1) < 0 ∧ ¬ 4 ≤ (nI b1) then 0 else 1)]) (c_noBoard (nI b1)) rfl lX10_61 rfl ⟨rfl, by decide, by decide, by decide, rfl, rfl⟩ ?_
      rw [if_pos c0]
      refine tf_go hx ftX10_keyOf 1 [false] 7 [some (.ref 4), some (.int (nI b1)), some (.int (nI l1))] [] S rfl ⟨by decide, by decide, rfl⟩ ⟨trivial, (by decide)⟩ ?_
      refine tf_go hx ftX10_keyOf 1 [] 8 [some (.ref 4), some (.int (nI b1)), some (.int (nI l1))] [.int (nI l1)] S rfl ⟨by decide, by decide, rfl⟩ trivial ?_
      refine tf_go hx ftX10_keyOf 1 [false] 11 [some (.ref 4), some (.int (nI b1)), some (.int (nI l1))] [] S rfl ⟨by decide, by decide, rfl⟩ ⟨trivial, (tf_ltF (a := l1) (b := 0) rfl (rfl : (0 : Int32) = nI 0) (by omega) (by omega) (by omega))⟩ ?_
      refine tf_go hx ftX10_keyOf 2 [] 14 [some (.ref 4), some (.int (nI b1)), some (.int (nI l1))] [.int 26, .int (nI l1)] S rfl ⟨by decide, by decide, rfl⟩ trivial ?_
      refine tf_go hx ftX10_keyOf 1 [true] 23 [some (.ref 4), some (.int (nI b1)), some (.int (nI l1))] [] S rfl ⟨by decide, by decide, rfl⟩ ⟨trivial, (tf_ltT (a := l1) (b := 26) rfl (rfl : (26 : Int32) = nI 26) (by omega) (by omega) (by omega))⟩ ?_
      have ar : tf_rf (tf_GG N) 6 (Int32.toNatClampNeg (nI b1)) = 7 + 3 * b1 := by rw [tf_cl_nI (by omega)]; exact (bdn b1_lt).2.2.2
      have arn : tf_rf (tf_GG N) 6 (Int32.toNatClampNeg (nI b1)) ≠ 0 := by rw [ar]; omega
      refine tf_go hx ftX10_keyOf 5 [] 32 [some (.ref 4), some (.int (nI b1)), some (.int (nI l1))] [.ref (tf_rf (tf_GG N) 6 (Int32.toNatClampNeg (nI b1)))] S rfl ⟨by decide, by decide, rfl⟩ ⟨⟨⟨trivial, ⟨by first | assumption | rfl | decide | omega | exact Nat.succ_ne_zero _, by first | assumption | rfl | decide | omega | exact Nat.succ_ne_zero _⟩⟩, ⟨by first | assumption | rfl | decide | omega | exact Nat.succ_ne_zero _, by first | assumption | rfl | decide | omega | exact Nat.succ_ne_zero _⟩⟩, ⟨by first | assumption | exact Or.inl rfl | exact Or.inr (Or.inl rfl) | exact Or.inr (Or.inr rfl) | omega, by exact tf_in (n := b1) (N := 4) rfl (by first | assumption | rfl) (by omega) (by decide), by first | assumption | rfl | decide | omega | exact Nat.succ_ne_zero _⟩⟩ ?_
      rw [ar]
      clear ar arn
      have tb : tf_tg (tf_GG N) (7 + 3 * b1) = 0 := (bdn b1_lt).1.1
      refine tf_go hx ftX10_keyOf 1 [] 33 [some (.ref 4), some (.int (nI b1)), some (.int (nI l1))] [.int (nI l1), .ref (7 + 3 * b1)] S rfl ⟨by decide, by decide, rfl⟩ trivial ?_
      refine tf_cV hx ftX10_keyOf (nx := 36) (As := [.int (nI l1)]) (rest := []) (st2 := [.int (tf_on 30 (tf_ke A.1 b1 l1))]) ((by have h := b_keyAt (S := S) (nI l1) (bdn (N := N) b1_lt).1; rw [if_pos c1, tf_cl_nI (by omega), nw_B hS b1_lt l1 l1_lt] at h; exact h)) rfl lX10_107 (by first | assumption | rfl | decide) rfl ⟨rfl, by decide, by decide, by decide, rfl, rfl⟩ ?_
      exact tf_ret ftX10_keyOf hR rfl ⟨by decide, by decide⟩ rfl rfl rfl
    · rw [if_neg (fun h => c1 h.2)]
      refine ⟨tf_set S 124 1 (S 124 1 + 1), tf_Fn_of (own := RX10) false ⟨by decide, rfl, by decide⟩ (Nat.le_of_ble_eq_true rfl) trivial (fun x hx hR => ?_), cs_ref hA hC 1, fc_set (by omega)⟩
      show tf_K x 0 0 (tf_GG N) S 0 [some (.ref 4), some (.int b), some (.int l)] []
      refine tf_go hx ftX10_keyOf 1 [] 1 [some (.ref 4), some (.int b), some (.int l)] [.int b] S rfl ⟨by decide, by decide, rfl⟩ trivial ?_
      refine tf_cS hx ftX10_keyOf (nx := 4) (As := [.int b]) (rest := []) (st2 := [.int (if ¬ b < 0 ∧ ¬ 4 ≤ b then 0 else 1)]) (c_noBoard b) rfl lX10_61 rfl ⟨rfl, by decide, by decide, by decide, rfl, rfl⟩ ?_
      rw [if_pos c0]
      refine tf_go hx ftX10_keyOf 1 [false] 7 [some (.ref 4), some (.int b), some (.int l)] [] S rfl ⟨by decide, by decide, rfl⟩ ⟨trivial, (by decide)⟩ ?_
      refine tf_go hx ftX10_keyOf 1 [] 8 [some (.ref 4), some (.int b), some (.int l)] [.int l] S rfl ⟨by decide, by decide, rfl⟩ trivial ?_
      by_cases z0 : l < 0
      · refine tf_go hx ftX10_keyOf 1 [true] 17 [some (.ref 4), some (.int b), some (.int l)] [] S rfl ⟨by decide, by decide, rfl⟩ ⟨trivial, (by first | assumption | rfl | decide | omega | exact Nat.succ_ne_zero _)⟩ ?_
        refine tf_go hx ftX10_keyOf 2 [] 19 [some (.ref 4), some (.int b), some (.int l)] [.int (-1), .ref 4] S rfl ⟨by decide, by decide, rfl⟩ trivial ?_
        refine tf_cV hx ftX10_keyOf (nx := 22) (As := [.int (-1)]) (rest := []) (st2 := [.int (-1)]) (n_ref1) rfl lX10_50 (by first | assumption | rfl | decide) rfl ⟨rfl, by decide, by decide, by decide, rfl, rfl⟩ ?_
        exact tf_ret ftX10_keyOf hR rfl ⟨by decide, by decide⟩ rfl rfl rfl
      · refine tf_go hx ftX10_keyOf 1 [false] 11 [some (.ref 4), some (.int b), some (.int l)] [] S rfl ⟨by decide, by decide, rfl⟩ ⟨trivial, (by first | assumption | rfl | decide | omega | exact Nat.succ_ne_zero _)⟩ ?_
        refine tf_go hx ftX10_keyOf 2 [] 14 [some (.ref 4), some (.int b), some (.int l)] [.int 26, .int l] S rfl ⟨by decide, by decide, rfl⟩ trivial ?_
        have z1 : 26 ≤ l := Classical.not_not.mp (fun z => c1 ⟨z0, z⟩)
        refine tf_go hx ftX10_keyOf 1 [false] 17 [some (.ref 4), some (.int b), some (.int l)] [] S rfl ⟨by decide, by decide, rfl⟩ ⟨trivial, (Int32.not_lt.mpr z1)⟩ ?_
        refine tf_go hx ftX10_keyOf 2 [] 19 [some (.ref 4), some (.int b), some (.int l)] [.int (-1), .ref 4] S rfl ⟨by decide, by decide, rfl⟩ trivial ?_
        refine tf_cV hx ftX10_keyOf (nx := 22) (As := [.int (-1)]) (rest := []) (st2 := [.int (-1)]) (n_ref1) rfl lX10_50 (by first | assumption | rfl | decide) rfl ⟨rfl, by decide, by decide, by decide, rfl, rfl⟩ ?_
        exact tf_ret ftX10_keyOf hR rfl ⟨by decide, by decide⟩ rfl rfl rfl
  · rw [if_neg (fun h => c0 h.1)]
    refine ⟨tf_set S 124 1 (S 124 1 + 1), tf_Fn_of (own := RX10) false ⟨by decide, rfl, by decide⟩ (Nat.le_of_ble_eq_true rfl) trivial (fun x hx hR => ?_), cs_ref hA hC 1, fc_set (by omega)⟩
    show tf_K x 0 0 (tf_GG N) S 0 [some (.ref 4), some (.int b), some (.int l)] []
    refine tf_go hx ftX10_keyOf 1 [] 1 [some (.ref 4), some (.int b), some (.int l)] [.int b] S rfl ⟨by decide, by decide, rfl⟩ trivial ?_
    refine tf_cS hx ftX10_keyOf (nx := 4) (As := [.int b]) (rest := []) (st2 := [.int (if ¬ b < 0 ∧ ¬ 4 ≤ b then 0 else 1)]) (c_noBoard b) rfl lX10_61 rfl ⟨rfl, by decide, by decide, by decide, rfl, rfl⟩ ?_
    rw [if_neg c0]
    refine tf_go hx ftX10_keyOf 1 [true] 17 [some (.ref 4), some (.int b), some (.int l)] [] S rfl ⟨by decide, by decide, rfl⟩ ⟨trivial, (by decide)⟩ ?_
    refine tf_go hx ftX10_keyOf 2 [] 19 [some (.ref 4), some (.int b), some (.int l)] [.int (-1), .ref 4] S rfl ⟨by decide, by decide, rfl⟩ trivial ?_
    refine tf_cV hx ftX10_keyOf (nx := 22) (As := [.int (-1)]) (rest := []) (st2 := [.int (-1)]) (n_ref1) rfl lX10_50 (by first | assumption | rfl | decide) rfl ⟨rfl, by decide, by decide, by decide, rfl, rfl⟩ ?_
    exact tf_ret ftX10_keyOf hR rfl ⟨by decide, by decide⟩ rfl rfl rfl

set_option maxHeartbeats 2000000 in
theorem c_letterOn {N : Nat} {S : tf_Sg} {A : tf_A} (b k : Int32) (hA : tf_okA A) (hC : tf_cs S A)  : tf_cpq mX10_letterOn 3 N S [.ref 4, .int b, .int k] (s_letterOn A b k) := by
  obtain ⟨hg, hb, hA3, hA4, hA5, hA6⟩ := id hA
  obtain ⟨h1j, hS, hK5, ⟨hT1, hT2⟩, hRf, hIm⟩ := id hC
  obtain ⟨⟨g1, g2, g3, g4⟩, g5, g6, g7, g8, g9, g10, g11⟩ := id hg
  unfold s_letterOn
  by_cases c0 : ¬ b < 0 ∧ ¬ 4 ≤ b
  · by_cases c1 : ¬ k < 0 ∧ ¬ 30 ≤ k
    · rw [if_pos ⟨c0, c1⟩]
      obtain ⟨b1, b1_lt, b1_eq, b1_cl⟩ := tf_ok_nI (N := 4) (show tf_ok b _ from c0) rfl (by decide)
      try rw [b1_cl]
      obtain ⟨k1, k1_lt, k1_eq, k1_cl⟩ := tf_ok_nI (N := 30) (show tf_ok k _ from c1) rfl (by decide)
      try rw [k1_cl]
      subst b1_eq
      subst k1_eq
      have vb := g10 (30 * b1 + k1) (by omega)
      have vv : tf_vo (A.1 (30 * b1 + k1)) = if A.1 (30 * b1 + k1) = 0 then -9 else nI (A.1 (30 * b1 + k1) - 1) := rfl
      rw [← vv]
      refine ⟨S, tf_Fn_of (own := RX10) false ⟨by decide, rfl, by decide⟩ (Nat.le_of_ble_eq_true rfl) trivial (fun x hx hR => ?_), hC, fc_id⟩
      show tf_K x 0 0 (tf_GG N) S 0 [some (.ref 4), some (.int (nI b1)), some (.int (nI k1))] []
      refine tf_go hx ftX10_letterOn 1 [] 1 [some (.ref 4), some (.int (nI b1)), some (.int (nI k1))] [.int (nI b1)] S rfl ⟨by decide, by decide, rfl⟩ trivial ?_
      refine tf_cS hx ftX10_letterOn (nx := 4) (As := [.int (nI b1)]) (rest := []) (st2 := [.int (if ¬ (nI b1) < 0 ∧ ¬ 4 ≤ (nI b1) then 0 else 1)]) (c_noBoard (nI b1)) rfl lX10_61 rfl ⟨rfl, by decide, by decide, by decide, rfl, rfl⟩ ?_
      rw [if_pos c0]
      refine tf_go hx ftX10_letterOn 1 [false] 7 [some (.ref 4), some (.int (nI b1)), some (.int (nI k1))] [] S rfl ⟨by decide, by decide, rfl⟩ ⟨trivial, (by decide)⟩ ?_
      refine tf_go hx ftX10_letterOn 1 [] 8 [some (.ref 4), some (.int (nI b1)), some (.int (nI k1))] [.int (nI k1)] S rfl ⟨by decide, by decide, rfl⟩ trivial ?_
      refine tf_cS hx ftX10_letterOn (nx := 11) (As := [.int (nI k1)]) (rest := []) (st2 := [.int (if ¬ (nI k1) < 0 ∧ ¬ 30 ≤ (nI k1) then 0 else 1)]) (c_noKey (nI k1)) rfl lX10_110 rfl ⟨rfl, by decide, by decide, by decide, rfl, rfl⟩ ?_
      rw [if_pos c1]
      refine tf_go hx ftX10_letterOn 1 [true] 20 [some (.ref 4), some (.int (nI b1)), some (.int (nI k1))] [] S rfl ⟨by decide, by decide, rfl⟩ ⟨trivial, (by decide)⟩ ?_
      have ar : tf_rf (tf_GG N) 6 (Int32.toNatClampNeg (nI b1)) = 7 + 3 * b1 := by rw [tf_cl_nI (by omega)]; exact (bdn b1_lt).2.2.2
      have arn : tf_rf (tf_GG N) 6 (Int32.toNatClampNeg (nI b1)) ≠ 0 := by rw [ar]; omega
      refine tf_go hx ftX10_letterOn 5 [] 29 [some (.ref 4), some (.int (nI b1)), some (.int (nI k1))] [.ref (tf_rf (tf_GG N) 6 (Int32.toNatClampNeg (nI b1)))] S rfl ⟨by decide, by decide, rfl⟩ ⟨⟨⟨trivial, ⟨by first | assumption | rfl | decide | omega | exact Nat.succ_ne_zero _, by first | assumption | rfl | decide | omega | exact Nat.succ_ne_zero _⟩⟩, ⟨by first | assumption | rfl | decide | omega | exact Nat.succ_ne_zero _, by first | assumption | rfl | decide | omega | exact Nat.succ_ne_zero _⟩⟩, ⟨by first | assumption | exact Or.inl rfl | exact Or.inr (Or.inl rfl) | exact Or.inr (Or.inr rfl) | omega, by exact tf_in (n := b1) (N := 4) rfl (by first | assumption | rfl) (by omega) (by decide), by first | assumption | rfl | decide | omega | exact Nat.succ_ne_zero _⟩⟩ ?_
      rw [ar]
      clear ar arn
      have tb : tf_tg (tf_GG N) (7 + 3 * b1) = 0 := (bdn b1_lt).1.1
      refine tf_go hx ftX10_letterOn 1 [] 30 [some (.ref 4), some (.int (nI b1)), some (.int (nI k1))] [.int (nI k1), .ref (7 + 3 * b1)] S rfl ⟨by decide, by decide, rfl⟩ trivial ?_
      refine tf_cV hx ftX10_letterOn (nx := 33) (As := [.int (nI k1)]) (rest := []) (st2 := [.int (tf_vo (A.1 (30 * b1 + k1)))]) ((by have h := b_letterAt (S := S) (nI k1) (bdn (N := N) b1_lt).1; rw [if_pos c1, tf_cl_nI (by omega), (bdn b1_lt).2.1, (hS.1 b1 b1_lt).1 k1 k1_lt] at h; exact h)) rfl lX10_113 (by first | assumption | rfl | decide) rfl ⟨rfl, by decide, by decide, by decide, rfl, rfl⟩ ?_
      exact tf_ret ftX10_letterOn hR rfl ⟨by decide, by decide⟩ rfl rfl rfl
    · rw [if_neg (fun h => c1 h.2)]
      refine ⟨tf_set S 124 1 (S 124 1 + 1), tf_Fn_of (own := RX10) false ⟨by decide, rfl, by decide⟩ (Nat.le_of_ble_eq_true rfl) trivial (fun x hx hR => ?_), cs_ref hA hC 1, fc_set (by omega)⟩
      show tf_K x 0 0 (tf_GG N) S 0 [some (.ref 4), some (.int b), some (.int k)] []
      refine tf_go hx ftX10_letterOn 1 [] 1 [some (.ref 4), some (.int b), some (.int k)] [.int b] S rfl ⟨by decide, by decide, rfl⟩ trivial ?_
      refine tf_cS hx ftX10_letterOn (nx := 4) (As := [.int b]) (rest := []) (st2 := [.int (if ¬ b < 0 ∧ ¬ 4 ≤ b then 0 else 1)]) (c_noBoard b) rfl lX10_61 rfl ⟨rfl, by decide, by decide, by decide, rfl, rfl⟩ ?_
      rw [if_pos c0]
      refine tf_go hx ftX10_letterOn 1 [false] 7 [some (.ref 4), some (.int b), some (.int k)] [] S rfl ⟨by decide, by decide, rfl⟩ ⟨trivial, (by decide)⟩ ?_
      refine tf_go hx ftX10_letterOn 1 [] 8 [some (.ref 4), some (.int b), some (.int k)] [.int k] S rfl ⟨by decide, by decide, rfl⟩ trivial ?_
      refine tf_cS hx ftX10_letterOn (nx := 11) (As := [.int k]) (rest := []) (st2 := [.int (if ¬ k < 0 ∧ ¬ 30 ≤ k then 0 else 1)]) (c_noKey k) rfl lX10_110 rfl ⟨rfl, by decide, by decide, by decide, rfl, rfl⟩ ?_
      rw [if_neg c1]
      refine tf_go hx ftX10_letterOn 1 [false] 14 [some (.ref 4), some (.int b), some (.int k)] [] S rfl ⟨by decide, by decide, rfl⟩ ⟨trivial, (by decide)⟩ ?_
      refine tf_go hx ftX10_letterOn 2 [] 16 [some (.ref 4), some (.int b), some (.int k)] [.int (-1), .ref 4] S rfl ⟨by decide, by decide, rfl⟩ trivial ?_
      refine tf_cV hx ftX10_letterOn (nx := 19) (As := [.int (-1)]) (rest := []) (st2 := [.int (-1)]) (n_ref1) rfl lX10_50 (by first | assumption | rfl | decide) rfl ⟨rfl, by decide, by decide, by decide, rfl, rfl⟩ ?_
      exact tf_ret ftX10_letterOn hR rfl ⟨by decide, by decide⟩ rfl rfl rfl
  · rw [if_neg (fun h => c0 h.1)]
    refine ⟨tf_set S 124 1 (S 124 1 + 1), tf_Fn_of (own := RX10) false ⟨by decide, rfl, by decide⟩ (Nat.le_of_ble_eq_true rfl) trivial (fun x hx hR => ?_), cs_ref hA hC 1, fc_set (by omega)⟩
    show tf_K x 0 0 (tf_GG N) S 0 [some (.ref 4), some (.int b), some (.int k)] []
    refine tf_go hx ftX10_letterOn 1 [] 1 [some (.ref 4), some (.int b), some (.int k)] [.int b] S rfl ⟨by decide, by decide, rfl⟩ trivial ?_
    refine tf_cS hx ftX10_letterOn (nx := 4) (As := [.int b]) (rest := []) (st2 := [.int (if ¬ b < 0 ∧ ¬ 4 ≤ b then 0 else 1)]) (c_noBoard b) rfl lX10_61 rfl ⟨rfl, by decide, by decide, by decide, rfl, rfl⟩ ?_
    rw [if_neg c0]
    refine tf_go hx ftX10_letterOn 1 [true] 14 [some (.ref 4), some (.int b), some (.int k)] [] S rfl ⟨by decide, by decide, rfl⟩ ⟨trivial, (by decide)⟩ ?_
    refine tf_go hx ftX10_letterOn 2 [] 16 [some (.ref 4), some (.int b), some (.int k)] [.int (-1), .ref 4] S rfl ⟨by decide, by decide, rfl⟩ trivial ?_
    refine tf_cV hx ftX10_letterOn (nx := 19) (As := [.int (-1)]) (rest := []) (st2 := [.int (-1)]) (n_ref1) rfl lX10_50 (by first | assumption | rfl | decide) rfl ⟨rfl, by decide, by decide, by decide, rfl, rfl⟩ ?_
    exact tf_ret ftX10_letterOn hR rfl ⟨by decide, by decide⟩ rfl rfl rfl

set_option maxHeartbeats 2000000 in
theorem c_fingerOf {N : Nat} {S : tf_Sg} {A : tf_A} (k : Int32) (t : Nat) (hA : tf_okA A) (hC : tf_cs S A) (ht : t < 2) : tf_cpq mX10_fingerOf 3 N S [.ref 4, .int k, .int (nI t)] (s_fingerOf A k t) := by
  obtain ⟨hg, hb, hA3, hA4, hA5, hA6⟩ := id hA
  obtain ⟨h1j, hS, hK5, ⟨hT1, hT2⟩, hRf, hIm⟩ := id hC
  obtain ⟨⟨g1, g2, g3, g4⟩, g5, g6, g7, g8, g9, g10, g11⟩ := id hg
  unfold s_fingerOf
  by_cases c0 : ¬ k < 0 ∧ ¬ 30 ≤ k
  · rw [if_pos c0]
    obtain ⟨k1, k1_lt, k1_eq, k1_cl⟩ := tf_ok_nI (N := 30) (show tf_ok k _ from c0) rfl (by decide)
    try rw [k1_cl]
    subst k1_eq
    refine ⟨S, tf_Fn_of (own := RX10) false ⟨by decide, rfl, by decide⟩ (Nat.le_of_ble_eq_true rfl) trivial (fun x hx hR => ?_), hC, fc_id⟩
    show tf_K x 0 0 (tf_GG N) S 0 [some (.ref 4), some (.int (nI k1)), some (.int (nI t))] []
    refine tf_go hx ftX10_fingerOf 1 [] 1 [some (.ref 4), some (.int (nI k1)), some (.int (nI t))] [.int (nI k1)] S rfl ⟨by decide, by decide, rfl⟩ trivial ?_
    refine tf_cS hx ftX10_fingerOf (nx := 4) (As := [.int (nI k1)]) (rest := []) (st2 := [.int (if ¬ (nI k1) < 0 ∧ ¬ 30 ≤ (nI k1) then 0 else 1)]) (c_noKey (nI k1)) rfl lX10_110 rfl ⟨rfl, by decide, by decide, by decide, rfl, rfl⟩ ?_
    rw [if_pos c0]
    refine tf_go hx ftX10_fingerOf 1 [true] 13 [some (.ref 4), some (.int (nI k1)), some (.int (nI t))] [] S rfl ⟨by decide, by decide, rfl⟩ ⟨trivial, (by decide)⟩ ?_
    refine tf_go hx ftX10_fingerOf 2 [] 15 [some (.ref 4), some (.int (nI k1)), some (.int (nI t))] [.int (nI t), .int (nI k1)] S rfl ⟨by decide, by decide, rfl⟩ trivial ?_
    refine tf_cS hx ftX10_fingerOf (nx := 18) (As := [.int (nI k1), .int (nI t)]) (rest := []) (st2 := [.int (nI (tf_fi k1 t))]) (k_finger k1 t (tf_k1_of h1j) k1_lt ht) rfl lX10_116 rfl ⟨rfl, by decide, by decide, by decide, rfl, rfl⟩ ?_
    exact tf_ret ftX10_fingerOf hR rfl ⟨by decide, by decide⟩ rfl rfl rfl
  · rw [if_neg (fun h => c0 h)]
    refine ⟨tf_set S 124 1 (S 124 1 + 1), tf_Fn_of (own := RX10) false ⟨by decide, rfl, by decide⟩ (Nat.le_of_ble_eq_true rfl) trivial (fun x hx hR => ?_), cs_ref hA hC 1, fc_set (by omega)⟩
    show tf_K x 0 0 (tf_GG N) S 0 [some (.ref 4), some (.int k), some (.int (nI t))] []
    refine tf_go hx ftX10_fingerOf 1 [] 1 [some (.ref 4), some (.int k), some (.int (nI t))] [.int k] S rfl ⟨by decide, by decide, rfl⟩ trivial ?_
    refine tf_cS hx ftX10_fingerOf (nx := 4) (As := [.int k]) (rest := []) (st2 := [.int (if ¬ k < 0 ∧ ¬ 30 ≤ k then 0 else 1)]) (c_noKey k) rfl lX10_110 rfl ⟨rfl, by decide, by decide, by decide, rfl, rfl⟩ ?_
    rw [if_neg c0]
    refine tf_go hx ftX10_fingerOf 1 [false] 7 [some (.ref 4), some (.int k), some (.int (nI t))] [] S rfl ⟨by decide, by decide, rfl⟩ ⟨trivial, (by decide)⟩ ?_
    refine tf_go hx ftX10_fingerOf 2 [] 9 [some (.ref 4), some (.int k), some (.int (nI t))] [.int (-1), .ref 4] S rfl ⟨by decide, by decide, rfl⟩ trivial ?_
    refine tf_cV hx ftX10_fingerOf (nx := 12) (As := [.int (-1)]) (rest := []) (st2 := [.int (-1)]) (n_ref1) rfl lX10_50 (by first | assumption | rfl | decide) rfl ⟨rfl, by decide, by decide, by decide, rfl, rfl⟩ ?_
    exact tf_ret ftX10_fingerOf hR rfl ⟨by decide, by decide⟩ rfl rfl rfl

set_option maxHeartbeats 2000000 in
theorem c_gap {N : Nat} {S : tf_Sg} {A : tf_A} (h b p q : Int32) (hA : tf_okA A) (hC : tf_cs S A)  : tf_cpq mX10_gap 5 N S [.ref 4, .int h, .int b, .int p, .int q] (s_gap A h b p q) := by
  obtain ⟨hg, hb, hA3, hA4, hA5, hA6⟩ := id hA
  obtain ⟨h1j, hS, hK5, ⟨hT1, hT2⟩, hRf, hIm⟩ := id hC
  obtain ⟨⟨g1, g2, g3, g4⟩, g5, g6, g7, g8, g9, g10, g11⟩ := id hg
  unfold s_gap
  by_cases c0 : ¬ h < 0 ∧ ¬ 4 ≤ h
  · by_cases c1 : ¬ b < 0 ∧ ¬ 4 ≤ b
    · by_cases c2 : ¬ p < 0 ∧ ¬ 30 ≤ p
      · by_cases c3 : ¬ q < 0 ∧ ¬ 30 ≤ q
        · rw [if_pos ⟨c0, c1, c2, c3⟩]
          obtain ⟨h1, h1_lt, h1_eq, h1_cl⟩ := tf_ok_nI (N := 4) (show tf_ok h _ from c0) rfl (by decide)
          try rw [h1_cl]
          obtain ⟨b1, b1_lt, b1_eq, b1_cl⟩ := tf_ok_nI (N := 4) (show tf_ok b _ from c1) rfl (by decide)
          try rw [b1_cl]
          obtain ⟨p1, p1_lt, p1_eq, p1_cl⟩ := tf_ok_nI (N := 30) (show tf_ok p _ from c2) rfl (by decide)
          try rw [p1_cl]
          obtain ⟨q1, q1_lt, q1_eq, q1_cl⟩ := tf_ok_nI (N := 30) (show tf_ok q _ from c3) rfl (by decide)
          try rw [q1_cl]
          subst h1_eq
          subst b1_eq
          subst p1_eq
          subst q1_eq
          have ge : tf_gL (tf_ll A.1 h1) p1 q1 0 = tf_ga A.1 h1 p1 q1 0 := by unfold tf_gL; rw [if_neg (by omega), if_neg (by omega)]; rfl
          refine ⟨S, tf_Fn_of (own := RX10) false ⟨by decide, rfl, by decide⟩ (Nat.le_of_ble_eq_true rfl) trivial (fun x hx hR => ?_), hC, fc_id⟩
          show tf_K x 0 0 (tf_GG N) S 0 [some (.ref 4), some (.int (nI h1)), some (.int (nI b1)), some (.int (nI p1)), some (.int (nI q1))] []
          refine tf_go hx ftX10_gap 1 [] 1 [some (.ref 4), some (.int (nI h1)), some (.int (nI b1)), some (.int (nI p1)), some (.int (nI q1))] [.int (nI h1)] S rfl ⟨by decide, by decide, rfl⟩ trivial ?_
          refine tf_cS hx ftX10_gap (nx := 4) (As := [.int (nI h1)]) (rest := []) (st2 := [.int (if ¬ (nI h1) < 0 ∧ ¬ 4 ≤ (nI h1) then 0 else 1)]) (c_noHand (nI h1)) rfl lX10_122 rfl ⟨rfl, by decide, by decide, by decide, rfl, rfl⟩ ?_
          rw [if_pos c0]
          refine tf_go hx ftX10_gap 1 [false] 7 [some (.ref 4), some (.int (nI h1)), some (.int (nI b1)), some (.int (nI p1)), some (.int (nI q1))] [] S rfl ⟨by decide, by decide, rfl⟩ ⟨trivial, (by decide)⟩ ?_
          refine tf_go hx ftX10_gap 1 [] 8 [some (.ref 4), some (.int (nI h1)), some (.int (nI b1)), some (.int (nI p1)), some (.int (nI q1))] [.int (nI b1)] S rfl ⟨by decide, by decide, rfl⟩ trivial ?_
          refine tf_cS hx ftX10_gap (nx := 11) (As := [.int (nI b1)]) (rest := []) (st2 := [.int (if ¬ (nI b1) < 0 ∧ ¬ 4 ≤ (nI b1) then 0 else 1)]) (c_noBoard (nI b1)) rfl lX10_61 rfl ⟨rfl, by decide, by decide, by decide, rfl, rfl⟩ ?_
          rw [if_pos c1]
          refine tf_go hx ftX10_gap 1 [false] 14 [some (.ref 4), some (.int (nI h1)), some (.int (nI b1)), some (.int (nI p1)), some (.int (nI q1))] [] S rfl ⟨by decide, by decide, rfl⟩ ⟨trivial, (by decide)⟩ ?_
          refine tf_go hx ftX10_gap 1 [] 15 [some (.ref 4), some (.int (nI h1)), some (.int (nI b1)), some (.int (nI p1)), some (.int (nI q1))] [.int (nI p1)] S rfl ⟨by decide, by decide, rfl⟩ trivial ?_
          refine tf_cS hx ftX10_gap (nx := 18) (As := [.int (nI p1)]) (rest := []) (st2 := [.int (if ¬ (nI p1) < 0 ∧ ¬ 30 ≤ (nI p1) then 0 else 1)]) (c_noKey (nI p1)) rfl lX10_110 rfl ⟨rfl, by decide, by decide, by decide, rfl, rfl⟩ ?_
          rw [if_pos c2]
          refine tf_go hx ftX10_gap 1 [false] 21 [some (.ref 4), some (.int (nI h1)), some (.int (nI b1)), some (.int (nI p1)), some (.int (nI q1))] [] S rfl ⟨by decide, by decide, rfl⟩ ⟨trivial, (by decide)⟩ ?_
          refine tf_go hx ftX10_gap 1 [] 23 [some (.ref 4), some (.int (nI h1)), some (.int (nI b1)), some (.int (nI p1)), some (.int (nI q1))] [.int (nI q1)] S rfl ⟨by decide, by decide, rfl⟩ trivial ?_
          refine tf_cS hx ftX10_gap (nx := 26) (As := [.int (nI q1)]) (rest := []) (st2 := [.int (if ¬ (nI q1) < 0 ∧ ¬ 30 ≤ (nI q1) then 0 else 1)]) (c_noKey (nI q1)) rfl lX10_110 rfl ⟨rfl, by decide, by decide, by decide, rfl, rfl⟩ ?_
          rw [if_pos c3]
          refine tf_go hx ftX10_gap 1 [true] 35 [some (.ref 4), some (.int (nI h1)), some (.int (nI b1)), some (.int (nI p1)), some (.int (nI q1))] [] S rfl ⟨by decide, by decide, rfl⟩ ⟨trivial, (by decide)⟩ ?_
          have ar : tf_rf (tf_GG N) 19 (Int32.toNatClampNeg (nI h1)) = 20 + 2 * h1 := by rw [tf_cl_nI (by omega)]; exact (hdn h1_lt).2.2
          have arn : tf_rf (tf_GG N) 19 (Int32.toNatClampNeg (nI h1)) ≠ 0 := by rw [ar]; omega
          refine tf_go hx ftX10_gap 5 [] 44 [some (.ref 4), some (.int (nI h1)), some (.int (nI b1)), some (.int (nI p1)), some (.int (nI q1))] [.ref (tf_rf (tf_GG N) 19 (Int32.toNatClampNeg (nI h1)))] S rfl ⟨by decide, by decide, rfl⟩ ⟨⟨⟨trivial, ⟨by first | assumption | rfl | decide | omega | exact Nat.succ_ne_zero _, by first | assumption | rfl | decide | omega | exact Nat.succ_ne_zero _⟩⟩, ⟨by first | assumption | rfl | decide | omega | exact Nat.succ_ne_zero _, by first | assumption | rfl | decide | omega | exact Nat.succ_ne_zero _⟩⟩, ⟨by first | assumption | exact Or.inl rfl | exact Or.inr (Or.inl rfl) | exact Or.inr (Or.inr rfl) | omega, by exact tf_in (n := h1) (N := 4) rfl (by first | assumption | rfl) (by omega) (by decide), by first | assumption | rfl | decide | omega | exact Nat.succ_ne_zero _⟩⟩ ?_
          rw [ar]
          clear ar arn
          have th : tf_tg (tf_GG N) (20 + 2 * h1) = 1 := (hdn h1_lt).1.1
          refine tf_go hx ftX10_gap 3 [] 48 [some (.ref 4), some (.int (nI h1)), some (.int (nI b1)), some (.int (nI p1)), some (.int (nI q1))] [.int 0, .int (nI q1), .int (nI p1), .ref (20 + 2 * h1)] S rfl ⟨by decide, by decide, rfl⟩ trivial ?_
          refine tf_cV hx ftX10_gap (nx := 51) (As := [.int (nI p1), .int (nI q1), .int 0]) (rest := []) (st2 := [.int (nI (tf_ga A.1 h1 p1 q1 0))]) ((by have h := h_gapTo (S := S) (L := tf_ll A.1 h1) p1 q1 0 (hdn (N := N) h1_lt).1 (nw_H hS h1_lt) (tf_k1_of h1j) (by omega) (by omega) (by decide); rw [tf_on_y p1_lt, tf_on_y q1_lt, ge] at h; exact h)) rfl lX10_135 (by first | assumption | rfl | decide) rfl ⟨rfl, by decide, by decide, by decide, rfl, rfl⟩ ?_
          exact tf_ret ftX10_gap hR rfl ⟨by decide, by decide⟩ rfl rfl rfl
        · rw [if_neg (fun h => c3 h.2.2.2)]
          refine ⟨tf_set S 124 1 (S 124 1 + 1), tf_Fn_of (own := RX10) false ⟨by decide, rfl, by decide⟩ (Nat.le_of_ble_eq_true rfl) trivial (fun x hx hR => ?_), cs_ref hA hC 1, fc_set (by omega)⟩
          show tf_K x 0 0 (tf_GG N) S 0 [some (.ref 4), some (.int h), some (.int b), some (.int p), some (.int q)] []
          refine tf_go hx ftX10_gap 1 [] 1 [some (.ref 4), some (.int h), some (.int b), some (.int p), some (.int q)] [.int h] S rfl ⟨by decide, by decide, rfl⟩ trivial ?_
          refine tf_cS hx ftX10_gap (nx := 4) (As := [.int h]) (rest := []) (st2 := [.int (if ¬ h < 0 ∧ ¬ 4 ≤ h then 0 else 1)]) (c_noHand h) rfl lX10_122 rfl ⟨rfl, by decide, by decide, by decide, rfl, rfl⟩ ?_
          rw [if_pos c0]
          refine tf_go hx ftX10_gap 1 [false] 7 [some (.ref 4), some (.int h), some (.int b), some (.int p), some (.int q)] [] S rfl ⟨by decide, by decide, rfl⟩ ⟨trivial, (by decide)⟩ ?_
          refine tf_go hx ftX10_gap 1 [] 8 [some (.ref 4), some (.int h), some (.int b), some (.int p), some (.int q)] [.int b] S rfl ⟨by decide, by decide, rfl⟩ trivial ?_
          refine tf_cS hx ftX10_gap (nx := 11) (As := [.int b]) (rest := []) (st2 := [.int (if ¬ b < 0 ∧ ¬ 4 ≤ b then 0 else 1)]) (c_noBoard b) rfl lX10_61 rfl ⟨rfl, by decide, by decide, by decide, rfl, rfl⟩ ?_
          rw [if_pos c1]
          refine tf_go hx ftX10_gap 1 [false] 14 [some (.ref 4), some (.int h), some (.int b), some (.int p), some (.int q)] [] S rfl ⟨by decide, by decide, rfl⟩ ⟨trivial, (by decide)⟩ ?_
          refine tf_go hx ftX10_gap 1 [] 15 [some (.ref 4), some (.int h), some (.int b), some (.int p), some (.int q)] [.int p] S rfl ⟨by decide, by decide, rfl⟩ trivial ?_
          refine tf_cS hx ftX10_gap (nx := 18) (As := [.int p]) (rest := []) (st2 := [.int (if ¬ p < 0 ∧ ¬ 30 ≤ p then 0 else 1)]) (c_noKey p) rfl lX10_110 rfl ⟨rfl, by decide, by decide, by decide, rfl, rfl⟩ ?_
          rw [if_pos c2]
          refine tf_go hx ftX10_gap 1 [false] 21 [some (.ref 4), some (.int h), some (.int b), some (.int p), some (.int q)] [] S rfl ⟨by decide, by decide, rfl⟩ ⟨trivial, (by decide)⟩ ?_
          refine tf_go hx ftX10_gap 1 [] 23 [some (.ref 4), some (.int h), some (.int b), some (.int p), some (.int q)] [.int q] S rfl ⟨by decide, by decide, rfl⟩ trivial ?_
          refine tf_cS hx ftX10_gap (nx := 26) (As := [.int q]) (rest := []) (st2 := [.int (if ¬ q < 0 ∧ ¬ 30 ≤ q then 0 else 1)]) (c_noKey q) rfl lX10_110 rfl ⟨rfl, by decide, by decide, by decide, rfl, rfl⟩ ?_
          rw [if_neg c3]
          refine tf_go hx ftX10_gap 1 [false] 29 [some (.ref 4), some (.int h), some (.int b), some (.int p), some (.int q)] [] S rfl ⟨by decide, by decide, rfl⟩ ⟨trivial, (by decide)⟩ ?_
          refine tf_go hx ftX10_gap 2 [] 31 [some (.ref 4), some (.int h), some (.int b), some (.int p), some (.int q)] [.int (-1), .ref 4] S rfl ⟨by decide, by decide, rfl⟩ trivial ?_
          refine tf_cV hx ftX10_gap (nx := 34) (As := [.int (-1)]) (rest := []) (st2 := [.int (-1)]) (n_ref1) rfl lX10_50 (by first | assumption | rfl | decide) rfl ⟨rfl, by decide, by decide, by decide, rfl, rfl⟩ ?_
          exact tf_ret ftX10_gap hR rfl ⟨by decide, by decide⟩ rfl rfl rfl
      · rw [if_neg (fun h => c2 h.2.2.1)]
        refine ⟨tf_set S 124 1 (S 124 1 + 1), tf_Fn_of (own := RX10) false ⟨by decide, rfl, by decide⟩ (Nat.le_of_ble_eq_true rfl) trivial (fun x hx hR => ?_), cs_ref hA hC 1, fc_set (by omega)⟩
        show tf_K x 0 0 (tf_GG N) S 0 [some (.ref 4), some (.int h), some (.int b), some (.int p), some (.int q)] []
        refine tf_go hx ftX10_gap 1 [] 1 [some (.ref 4), some (.int h), some (.int b), some (.int p), some (.int q)] [.int h] S rfl ⟨by decide, by decide, rfl⟩ trivial ?_
        refine tf_cS hx ftX10_gap (nx := 4) (As := [.int h]) (rest := []) (st2 := [.int (if ¬ h < 0 ∧ ¬ 4 ≤ h then 0 else 1)]) (c_noHand h) rfl lX10_122 rfl ⟨rfl, by decide, by decide, by decide, rfl, rfl⟩ ?_
        rw [if_pos c0]
        refine tf_go hx ftX10_gap 1 [false] 7 [some (.ref 4), some (.int h), some (.int b), some (.int p), some (.int q)] [] S rfl ⟨by decide, by decide, rfl⟩ ⟨trivial, (by decide)⟩ ?_
        refine tf_go hx ftX10_gap 1 [] 8 [some (.ref 4), some (.int h), some (.int b), some (.int p), some (.int q)] [.int b] S rfl ⟨by decide, by decide, rfl⟩ trivial ?_
        refine tf_cS hx ftX10_gap (nx := 11) (As := [.int b]) (rest := []) (st2 := [.int (if ¬ b < 0 ∧ ¬ 4 ≤ b then 0 else 1)]) (c_noBoard b) rfl lX10_61 rfl ⟨rfl, by decide, by decide, by decide, rfl, rfl⟩ ?_
        rw [if_pos c1]
        refine tf_go hx ftX10_gap 1 [false] 14 [some (.ref 4), some (.int h), some (.int b), some (.int p), some (.int q)] [] S rfl ⟨by decide, by decide, rfl⟩ ⟨trivial, (by decide)⟩ ?_
        refine tf_go hx ftX10_gap 1 [] 15 [some (.ref 4), some (.int h), some (.int b), some (.int p), some (.int q)] [.int p] S rfl ⟨by decide, by decide, rfl⟩ trivial ?_
        refine tf_cS hx ftX10_gap (nx := 18) (As := [.int p]) (rest := []) (st2 := [.int (if ¬ p < 0 ∧ ¬ 30 ≤ p then 0 else 1)]) (c_noKey p) rfl lX10_110 rfl ⟨rfl, by decide, by decide, by decide, rfl, rfl⟩ ?_
        rw [if_neg c2]
        refine tf_go hx ftX10_gap 1 [true] 29 [some (.ref 4), some (.int h), some (.int b), some (.int p), some (.int q)] [] S rfl ⟨by decide, by decide, rfl⟩ ⟨trivial, (by decide)⟩ ?_
        refine tf_go hx ftX10_gap 2 [] 31 [some (.ref 4), some (.int h), some (.int b), some (.int p), some (.int q)] [.int (-1), .ref 4] S rfl ⟨by decide, by decide, rfl⟩ trivial ?_
        refine tf_cV hx ftX10_gap (nx := 34) (As := [.int (-1)]) (rest := []) (st2 := [.int (-1)]) (n_ref1) rfl lX10_50 (by first | assumption | rfl | decide) rfl ⟨rfl, by decide, by decide, by decide, rfl, rfl⟩ ?_
        exact tf_ret ftX10_gap hR rfl ⟨by decide, by decide⟩ rfl rfl rfl
    · rw [if_neg (fun h => c1 h.2.1)]
      refine ⟨tf_set S 124 1 (S 124 1 + 1), tf_Fn_of (own := RX10) false ⟨by decide, rfl, by decide⟩ (Nat.le_of_ble_eq_true rfl) trivial (fun x hx hR => ?_), cs_ref hA hC 1, fc_set (by omega)⟩
      show tf_K x 0 0 (tf_GG N) S 0 [some (.ref 4), some (.int h), some (.int b), some (.int p), some (.int q)] []
      refine tf_go hx ftX10_gap 1 [] 1 [some (.ref 4), some (.int h), some (.int b), some (.int p), some (.int q)] [.int h] S rfl ⟨by decide, by decide, rfl⟩ trivial ?_
      refine tf_cS hx ftX10_gap (nx := 4) (As := [.int h]) (rest := []) (st2 := [.int (if ¬ h < 0 ∧ ¬ 4 ≤ h then 0 else 1)]) (c_noHand h) rfl lX10_122 rfl ⟨rfl, by decide, by decide, by decide, rfl, rfl⟩ ?_
      rw [if_pos c0]
      refine tf_go hx ftX10_gap 1 [false] 7 [some (.ref 4), some (.int h), some (.int b), some (.int p), some (.int q)] [] S rfl ⟨by decide, by decide, rfl⟩ ⟨trivial, (by decide)⟩ ?_
      refine tf_go hx ftX10_gap 1 [] 8 [some (.ref 4), some (.int h), some (.int b), some (.int p), some (.int q)] [.int b] S rfl ⟨by decide, by decide, rfl⟩ trivial ?_
      refine tf_cS hx ftX10_gap (nx := 11) (As := [.int b]) (rest := []) (st2 := [.int (if ¬ b < 0 ∧ ¬ 4 ≤ b then 0 else 1)]) (c_noBoard b) rfl lX10_61 rfl ⟨rfl, by decide, by decide, by decide, rfl, rfl⟩ ?_
      rw [if_neg c1]
      refine tf_go hx ftX10_gap 1 [true] 29 [some (.ref 4), some (.int h), some (.int b), some (.int p), some (.int q)] [] S rfl ⟨by decide, by decide, rfl⟩ ⟨trivial, (by decide)⟩ ?_
      refine tf_go hx ftX10_gap 2 [] 31 [some (.ref 4), some (.int h), some (.int b), some (.int p), some (.int q)] [.int (-1), .ref 4] S rfl ⟨by decide, by decide, rfl⟩ trivial ?_
      refine tf_cV hx ftX10_gap (nx := 34) (As := [.int (-1)]) (rest := []) (st2 := [.int (-1)]) (n_ref1) rfl lX10_50 (by first | assumption | rfl | decide) rfl ⟨rfl, by decide, by decide, by decide, rfl, rfl⟩ ?_
      exact tf_ret ftX10_gap hR rfl ⟨by decide, by decide⟩ rfl rfl rfl
  · rw [if_neg (fun h => c0 h.1)]
    refine ⟨tf_set S 124 1 (S 124 1 + 1), tf_Fn_of (own := RX10) false ⟨by decide, rfl, by decide⟩ (Nat.le_of_ble_eq_true rfl) trivial (fun x hx hR => ?_), cs_ref hA hC 1, fc_set (by omega)⟩
    show tf_K x 0 0 (tf_GG N) S 0 [some (.ref 4), some (.int h), some (.int b), some (.int p), some (.int q)] []
    refine tf_go hx ftX10_gap 1 [] 1 [some (.ref 4), some (.int h), some (.int b), some (.int p), some (.int q)] [.int h] S rfl ⟨by decide, by decide, rfl⟩ trivial ?_
    refine tf_cS hx ftX10_gap (nx := 4) (As := [.int h]) (rest := []) (st2 := [.int (if ¬ h < 0 ∧ ¬ 4 ≤ h then 0 else 1)]) (c_noHand h) rfl lX10_122 rfl ⟨rfl, by decide, by decide, by decide, rfl, rfl⟩ ?_
    rw [if_neg c0]
    refine tf_go hx ftX10_gap 1 [true] 29 [some (.ref 4), some (.int h), some (.int b), some (.int p), some (.int q)] [] S rfl ⟨by decide, by decide, rfl⟩ ⟨trivial, (by decide)⟩ ?_
    refine tf_go hx ftX10_gap 2 [] 31 [some (.ref 4), some (.int h), some (.int b), some (.int p), some (.int q)] [.int (-1), .ref 4] S rfl ⟨by decide, by decide, rfl⟩ trivial ?_
    refine tf_cV hx ftX10_gap (nx := 34) (As := [.int (-1)]) (rest := []) (st2 := [.int (-1)]) (n_ref1) rfl lX10_50 (by first | assumption | rfl | decide) rfl ⟨rfl, by decide, by decide, by decide, rfl, rfl⟩ ?_
    exact tf_ret ftX10_gap hR rfl ⟨by decide, by decide⟩ rfl rfl rfl

set_option maxHeartbeats 2000000 in
theorem c_time {N : Nat} {S : tf_Sg} {A : tf_A} (h b : Int32) (t : Nat) (hA : tf_okA A) (hC : tf_cs S A) (ht : t < 2) : tf_cpq mX10_time 7 N S [.ref 4, .int h, .int b, .int (nI t)] (s_time A h b t) := by
  obtain ⟨hg, hb, hA3, hA4, hA5, hA6⟩ := id hA
  obtain ⟨h1j, hS, hK5, ⟨hT1, hT2⟩, hRf, hIm⟩ := id hC
  obtain ⟨⟨g1, g2, g3, g4⟩, g5, g6, g7, g8, g9, g10, g11⟩ := id hg
  unfold s_time
  by_cases c0 : ¬ h < 0 ∧ ¬ 4 ≤ h
  · by_cases c1 : ¬ b < 0 ∧ ¬ 4 ≤ b
    · rw [if_pos ⟨c0, c1⟩]
      obtain ⟨h1, h1_lt, h1_eq, h1_cl⟩ := tf_ok_nI (N := 4) (show tf_ok h _ from c0) rfl (by decide)
      try rw [h1_cl]
      obtain ⟨b1, b1_lt, b1_eq, b1_cl⟩ := tf_ok_nI (N := 4) (show tf_ok b _ from c1) rfl (by decide)
      try rw [b1_cl]
      subst h1_eq
      subst b1_eq
      refine ⟨tf_lx (tf_px S A.1) A.1 b1, tf_Fn_of (own := RX10) false ⟨by decide, rfl, by decide⟩ (Nat.le_of_ble_eq_true rfl) trivial (fun x hx hR => ?_), cs_sx hA hC (tf_sx_tr tf_sx_px tf_sx_lx), fc_sx (tf_sx_tr tf_sx_px tf_sx_lx)⟩
      show tf_K x 0 0 (tf_GG N) S 0 [some (.ref 4), some (.int (nI h1)), some (.int (nI b1)), some (.int (nI t))] []
      refine tf_go hx ftX10_time 1 [] 1 [some (.ref 4), some (.int (nI h1)), some (.int (nI b1)), some (.int (nI t))] [.int (nI h1)] S rfl ⟨by decide, by decide, rfl⟩ trivial ?_
      refine tf_cS hx ftX10_time (nx := 4) (As := [.int (nI h1)]) (rest := []) (st2 := [.int (if ¬ (nI h1) < 0 ∧ ¬ 4 ≤ (nI h1) then 0 else 1)]) (c_noHand (nI h1)) rfl lX10_122 rfl ⟨rfl, by decide, by decide, by decide, rfl, rfl⟩ ?_
      rw [if_pos c0]
      refine tf_go hx ftX10_time 1 [false] 7 [some (.ref 4), some (.int (nI h1)), some (.int (nI b1)), some (.int (nI t))] [] S rfl ⟨by decide, by decide, rfl⟩ ⟨trivial, (by decide)⟩ ?_
      refine tf_go hx ftX10_time 1 [] 8 [some (.ref 4), some (.int (nI h1)), some (.int (nI b1)), some (.int (nI t))] [.int (nI b1)] S rfl ⟨by decide, by decide, rfl⟩ trivial ?_
      refine tf_cS hx ftX10_time (nx := 11) (As := [.int (nI b1)]) (rest := []) (st2 := [.int (if ¬ (nI b1) < 0 ∧ ¬ 4 ≤ (nI b1) then 0 else 1)]) (c_noBoard (nI b1)) rfl lX10_61 rfl ⟨rfl, by decide, by decide, by decide, rfl, rfl⟩ ?_
      rw [if_pos c1]
      refine tf_go hx ftX10_time 1 [true] 20 [some (.ref 4), some (.int (nI h1)), some (.int (nI b1)), some (.int (nI t))] [] S rfl ⟨by decide, by decide, rfl⟩ ⟨trivial, (by decide)⟩ ?_
      refine tf_go hx ftX10_time 4 [] 24 [some (.ref 4), some (.int (nI h1)), some (.int (nI b1)), some (.int (nI t))] [.int (nI t), .int (nI b1), .int (nI h1), .ref 4] S rfl ⟨by decide, by decide, rfl⟩ trivial ?_
      refine tf_cV hx ftX10_time (nx := 27) (As := [.int (nI h1), .int (nI b1), .int (nI t)]) (rest := []) (st2 := [.int (nI (tf_tm A.1 h1 b1 t))]) (n_time hS h1j hg hb h1_lt b1_lt ht) rfl lX10_159 (by first | assumption | rfl | decide) rfl ⟨rfl, by decide, by decide, by decide, rfl, rfl⟩ ?_
      exact tf_ret ftX10_time hR rfl ⟨by decide, by decide⟩ rfl rfl rfl
    · rw [if_neg (fun h => c1 h.2)]
      refine ⟨tf_set S 124 1 (S 124 1 + 1), tf_Fn_of (own := RX10) false ⟨by decide, rfl, by decide⟩ (Nat.le_of_ble_eq_true rfl) trivial (fun x hx hR => ?_), cs_ref hA hC 1, fc_set (by omega)⟩
      show tf_K x 0 0 (tf_GG N) S 0 [some (.ref 4), some (.int h), some (.int b), some (.int (nI t))] []
      refine tf_go hx ftX10_time 1 [] 1 [some (.ref 4), some (.int h), some (.int b), some (.int (nI t))] [.int h] S rfl ⟨by decide, by decide, rfl⟩ trivial ?_
      refine tf_cS hx ftX10_time (nx := 4) (As := [.int h]) (rest := []) (st2 := [.int (if ¬ h < 0 ∧ ¬ 4 ≤ h then 0 else 1)]) (c_noHand h) rfl lX10_122 rfl ⟨rfl, by decide, by decide, by decide, rfl, rfl⟩ ?_
      rw [if_pos c0]
      refine tf_go hx ftX10_time 1 [false] 7 [some (.ref 4), some (.int h), some (.int b), some (.int (nI t))] [] S rfl ⟨by decide, by decide, rfl⟩ ⟨trivial, (by decide)⟩ ?_
      refine tf_go hx ftX10_time 1 [] 8 [some (.ref 4), some (.int h), some (.int b), some (.int (nI t))] [.int b] S rfl ⟨by decide, by decide, rfl⟩ trivial ?_
      refine tf_cS hx ftX10_time (nx := 11) (As := [.int b]) (rest := []) (st2 := [.int (if ¬ b < 0 ∧ ¬ 4 ≤ b then 0 else 1)]) (c_noBoard b) rfl lX10_61 rfl ⟨rfl, by decide, by decide, by decide, rfl, rfl⟩ ?_
      rw [if_neg c1]
      refine tf_go hx ftX10_time 1 [false] 14 [some (.ref 4), some (.int h), some (.int b), some (.int (nI t))] [] S rfl ⟨by decide, by decide, rfl⟩ ⟨trivial, (by decide)⟩ ?_
      refine tf_go hx ftX10_time 2 [] 16 [some (.ref 4), some (.int h), some (.int b), some (.int (nI t))] [.int (-1), .ref 4] S rfl ⟨by decide, by decide, rfl⟩ trivial ?_
      refine tf_cV hx ftX10_time (nx := 19) (As := [.int (-1)]) (rest := []) (st2 := [.int (-1)]) (n_ref1) rfl lX10_50 (by first | assumption | rfl | decide) rfl ⟨rfl, by decide, by decide, by decide, rfl, rfl⟩ ?_
      exact tf_ret ftX10_time hR rfl ⟨by decide, by decide⟩ rfl rfl rfl
  · rw [if_neg (fun h => c0 h.1)]
    refine ⟨tf_set S 124 1 (S 124 1 + 1), tf_Fn_of (own := RX10) false ⟨by decide, rfl, by decide⟩ (Nat.le_of_ble_eq_true rfl) trivial (fun x hx hR => ?_), cs_ref hA hC 1, fc_set (by omega)⟩
    show tf_K x 0 0 (tf_GG N) S 0 [some (.ref 4), some (.int h), some (.int b), some (.int (nI t))] []
    refine tf_go hx ftX10_time 1 [] 1 [some (.ref 4), some (.int h), some (.int b), some (.int (nI t))] [.int h] S rfl ⟨by decide, by decide, rfl⟩ trivial ?_
    refine tf_cS hx ftX10_time (nx := 4) (As := [.int h]) (rest := []) (st2 := [.int (if ¬ h < 0 ∧ ¬ 4 ≤ h then 0 else 1)]) (c_noHand h) rfl lX10_122 rfl ⟨rfl, by decide, by decide, by decide, rfl, rfl⟩ ?_
    rw [if_neg c0]
    refine tf_go hx ftX10_time 1 [true] 14 [some (.ref 4), some (.int h), some (.int b), some (.int (nI t))] [] S rfl ⟨by decide, by decide, rfl⟩ ⟨trivial, (by decide)⟩ ?_
    refine tf_go hx ftX10_time 2 [] 16 [some (.ref 4), some (.int h), some (.int b), some (.int (nI t))] [.int (-1), .ref 4] S rfl ⟨by decide, by decide, rfl⟩ trivial ?_
    refine tf_cV hx ftX10_time (nx := 19) (As := [.int (-1)]) (rest := []) (st2 := [.int (-1)]) (n_ref1) rfl lX10_50 (by first | assumption | rfl | decide) rfl ⟨rfl, by decide, by decide, by decide, rfl, rfl⟩ ?_
    exact tf_ret ftX10_time hR rfl ⟨by decide, by decide⟩ rfl rfl rfl

set_option maxHeartbeats 2000000 in
theorem c_better {N : Nat} {S : tf_Sg} {A : tf_A} (h b : Int32) (hA : tf_okA A) (hC : tf_cs S A)  : tf_cpq mX10_better 7 N S [.ref 4, .int h, .int b] (s_better A h b) := by
  obtain ⟨hg, hb, hA3, hA4, hA5, hA6⟩ := id hA
  obtain ⟨h1j, hS, hK5, ⟨hT1, hT2⟩, hRf, hIm⟩ := id hC
  obtain ⟨⟨g1, g2, g3, g4⟩, g5, g6, g7, g8, g9, g10, g11⟩ := id hg
  unfold s_better
  by_cases c0 : ¬ h < 0 ∧ ¬ 4 ≤ h
  · by_cases c1 : ¬ b < 0 ∧ ¬ 4 ≤ b
    · rw [if_pos ⟨c0, c1⟩]
      obtain ⟨h1, h1_lt, h1_eq, h1_cl⟩ := tf_ok_nI (N := 4) (show tf_ok h _ from c0) rfl (by decide)
      try rw [h1_cl]
      obtain ⟨b1, b1_lt, b1_eq, b1_cl⟩ := tf_ok_nI (N := 4) (show tf_ok b _ from c1) rfl (by decide)
      try rw [b1_cl]
      subst h1_eq
      subst b1_eq
      refine ⟨tf_lx (tf_px S A.1) A.1 b1, tf_Fn_of (own := RX10) false ⟨by decide, rfl, by decide⟩ (Nat.le_of_ble_eq_true rfl) trivial (fun x hx hR => ?_), cs_sx hA hC (tf_sx_tr tf_sx_px tf_sx_lx), fc_sx (tf_sx_tr tf_sx_px tf_sx_lx)⟩
      show tf_K x 0 0 (tf_GG N) S 0 [some (.ref 4), some (.int (nI h1)), some (.int (nI b1))] []
      refine tf_go hx ftX10_better 1 [] 1 [some (.ref 4), some (.int (nI h1)), some (.int (nI b1))] [.int (nI h1)] S rfl ⟨by decide, by decide, rfl⟩ trivial ?_
      refine tf_cS hx ftX10_better (nx := 4) (As := [.int (nI h1)]) (rest := []) (st2 := [.int (if ¬ (nI h1) < 0 ∧ ¬ 4 ≤ (nI h1) then 0 else 1)]) (c_noHand (nI h1)) rfl lX10_122 rfl ⟨rfl, by decide, by decide, by decide, rfl, rfl⟩ ?_
      rw [if_pos c0]
      refine tf_go hx ftX10_better 1 [false] 7 [some (.ref 4), some (.int (nI h1)), some (.int (nI b1))] [] S rfl ⟨by decide, by decide, rfl⟩ ⟨trivial, (by decide)⟩ ?_
      refine tf_go hx ftX10_better 1 [] 8 [some (.ref 4), some (.int (nI h1)), some (.int (nI b1))] [.int (nI b1)] S rfl ⟨by decide, by decide, rfl⟩ trivial ?_
      refine tf_cS hx ftX10_better (nx := 11) (As := [.int (nI b1)]) (rest := []) (st2 := [.int (if ¬ (nI b1) < 0 ∧ ¬ 4 ≤ (nI b1) then 0 else 1)]) (c_noBoard (nI b1)) rfl lX10_61 rfl ⟨rfl, by decide, by decide, by decide, rfl, rfl⟩ ?_
      rw [if_pos c1]
      refine tf_go hx ftX10_better 1 [true] 20 [some (.ref 4), some (.int (nI h1)), some (.int (nI b1))] [] S rfl ⟨by decide, by decide, rfl⟩ ⟨trivial, (by decide)⟩ ?_
      refine tf_go hx ftX10_better 8 [] 38 [some (.ref 4), some (.int (nI h1)), some (.int (nI b1))] [.ref 32, .ref 28, .ref 111] S rfl ⟨by decide, by decide, rfl⟩ ⟨⟨⟨⟨⟨trivial, ⟨by first | assumption | rfl | decide | omega | exact Nat.succ_ne_zero _, by first | assumption | rfl | decide | omega | exact Nat.succ_ne_zero _⟩⟩, ⟨by first | assumption | rfl | decide | omega | exact Nat.succ_ne_zero _, by first | assumption | rfl | decide | omega | exact Nat.succ_ne_zero _⟩⟩, ⟨by first | assumption | rfl | decide | omega | exact Nat.succ_ne_zero _, by first | assumption | rfl | decide | omega | exact Nat.succ_ne_zero _⟩⟩, ⟨by first | assumption | rfl | decide | omega | exact Nat.succ_ne_zero _, by first | assumption | rfl | decide | omega | exact Nat.succ_ne_zero _⟩⟩, ⟨by first | assumption | rfl | decide | omega | exact Nat.succ_ne_zero _, by first | assumption | rfl | decide | omega | exact Nat.succ_ne_zero _⟩⟩ ?_
      refine tf_cV hx ftX10_better (nx := 41) (As := [.ref 28, .ref 32]) (rest := []) (st2 := []) (n_cut hS hg hb) rfl lX10_145 (by first | assumption | rfl | decide) rfl ⟨rfl, by decide, by decide, by decide, rfl, rfl⟩ ?_
      refine tf_go hx ftX10_better 3 [] 44 [some (.ref 4), some (.int (nI h1)), some (.int (nI b1))] [.int (nI b1), .int (nI h1), .ref 4] (tf_px S A.1) rfl ⟨by decide, by decide, rfl⟩ trivial ?_
      refine tf_cV hx ftX10_better (nx := 47) (As := [.int (nI h1), .int (nI b1)]) (rest := []) (st2 := [.int (tf_on 3000 (tf_be A.1 h1 b1))]) (n_best (nw_st hS hg tf_sx_px) (nw_1 h1j tf_sx_px) hg hb (nw_H4 g1) h1_lt b1_lt) rfl lX10_172 (by first | assumption | rfl | decide) rfl ⟨rfl, by decide, by decide, by decide, rfl, rfl⟩ ?_
      exact tf_ret ftX10_better hR rfl ⟨by decide, by decide⟩ rfl rfl rfl
    · rw [if_neg (fun h => c1 h.2)]
      refine ⟨tf_set S 124 1 (S 124 1 + 1), tf_Fn_of (own := RX10) false ⟨by decide, rfl, by decide⟩ (Nat.le_of_ble_eq_true rfl) trivial (fun x hx hR => ?_), cs_ref hA hC 1, fc_set (by omega)⟩
      show tf_K x 0 0 (tf_GG N) S 0 [some (.ref 4), some (.int h), some (.int b)] []
      refine tf_go hx ftX10_better 1 [] 1 [some (.ref 4), some (.int h), some (.int b)] [.int h] S rfl ⟨by decide, by decide, rfl⟩ trivial ?_
      refine tf_cS hx ftX10_better (nx := 4) (As := [.int h]) (rest := []) (st2 := [.int (if ¬ h < 0 ∧ ¬ 4 ≤ h then 0 else 1)]) (c_noHand h) rfl lX10_122 rfl ⟨rfl, by decide, by decide, by decide, rfl, rfl⟩ ?_
      rw [if_pos c0]
      refine tf_go hx ftX10_better 1 [false] 7 [some (.ref 4), some (.int h), some (.int b)] [] S rfl ⟨by decide, by decide, rfl⟩ ⟨trivial, (by decide)⟩ ?_
      refine tf_go hx ftX10_better 1 [] 8 [some (.ref 4), some (.int h), some (.int b)] [.int b] S rfl ⟨by decide, by decide, rfl⟩ trivial ?_
      refine tf_cS hx ftX10_better (nx := 11) (As := [.int b]) (rest := []) (st2 := [.int (if ¬ b < 0 ∧ ¬ 4 ≤ b then 0 else 1)]) (c_noBoard b) rfl lX10_61 rfl ⟨rfl, by decide, by decide, by decide, rfl, rfl⟩ ?_
      rw [if_neg c1]
      refine tf_go hx ftX10_better 1 [false] 14 [some (.ref 4), some (.int h), some (.int b)] [] S rfl ⟨by decide, by decide, rfl⟩ ⟨trivial, (by decide)⟩ ?_
      refine tf_go hx ftX10_better 2 [] 16 [some (.ref 4), some (.int h), some (.int b)] [.int (-1), .ref 4] S rfl ⟨by decide, by decide, rfl⟩ trivial ?_
      refine tf_cV hx ftX10_better (nx := 19) (As := [.int (-1)]) (rest := []) (st2 := [.int (-1)]) (n_ref1) rfl lX10_50 (by first | assumption | rfl | decide) rfl ⟨rfl, by decide, by decide, by decide, rfl, rfl⟩ ?_
      exact tf_ret ftX10_better hR rfl ⟨by decide, by decide⟩ rfl rfl rfl
  · rw [if_neg (fun h => c0 h.1)]
    refine ⟨tf_set S 124 1 (S 124 1 + 1), tf_Fn_of (own := RX10) false ⟨by decide, rfl, by decide⟩ (Nat.le_of_ble_eq_true rfl) trivial (fun x hx hR => ?_), cs_ref hA hC 1, fc_set (by omega)⟩
    show tf_K x 0 0 (tf_GG N) S 0 [some (.ref 4), some (.int h), some (.int b)] []
    refine tf_go hx ftX10_better 1 [] 1 [some (.ref 4), some (.int h), some (.int b)] [.int h] S rfl ⟨by decide, by decide, rfl⟩ trivial ?_
    refine tf_cS hx ftX10_better (nx := 4) (As := [.int h]) (rest := []) (st2 := [.int (if ¬ h < 0 ∧ ¬ 4 ≤ h then 0 else 1)]) (c_noHand h) rfl lX10_122 rfl ⟨rfl, by decide, by decide, by decide, rfl, rfl⟩ ?_
    rw [if_neg c0]
    refine tf_go hx ftX10_better 1 [true] 14 [some (.ref 4), some (.int h), some (.int b)] [] S rfl ⟨by decide, by decide, rfl⟩ ⟨trivial, (by decide)⟩ ?_
    refine tf_go hx ftX10_better 2 [] 16 [some (.ref 4), some (.int h), some (.int b)] [.int (-1), .ref 4] S rfl ⟨by decide, by decide, rfl⟩ trivial ?_
    refine tf_cV hx ftX10_better (nx := 19) (As := [.int (-1)]) (rest := []) (st2 := [.int (-1)]) (n_ref1) rfl lX10_50 (by first | assumption | rfl | decide) rfl ⟨rfl, by decide, by decide, by decide, rfl, rfl⟩ ?_
    exact tf_ret ftX10_better hR rfl ⟨by decide, by decide⟩ rfl rfl rfl

set_option maxHeartbeats 2000000 in
theorem c_far {N : Nat} {S : tf_Sg} {A : tf_A} (h b : Int32) (hA : tf_okA A) (hC : tf_cs S A)  : tf_cpq mX10_far 7 N S [.ref 4, .int h, .int b] (s_far A h b) := by
  obtain ⟨hg, hb, hA3, hA4, hA5, hA6⟩ := id hA
  obtain ⟨h1j, hS, hK5, ⟨hT1, hT2⟩, hRf, hIm⟩ := id hC
  obtain ⟨⟨g1, g2, g3, g4⟩, g5, g6, g7, g8, g9, g10, g11⟩ := id hg
  unfold s_far
  by_cases c0 : ¬ h < 0 ∧ ¬ 4 ≤ h
  · by_cases c1 : ¬ b < 0 ∧ ¬ 4 ≤ b
    · rw [if_pos ⟨c0, c1⟩]
      obtain ⟨h1, h1_lt, h1_eq, h1_cl⟩ := tf_ok_nI (N := 4) (show tf_ok h _ from c0) rfl (by decide)
      try rw [h1_cl]
      obtain ⟨b1, b1_lt, b1_eq, b1_cl⟩ := tf_ok_nI (N := 4) (show tf_ok b _ from c1) rfl (by decide)
      try rw [b1_cl]
      subst h1_eq
      subst b1_eq
      have hS2 : tf_st (tf_lx S A.1 b1) 5 A.1 := nw_st hS hg tf_sx_lx
      have hk2 : tf_k1 (tf_GG N) (tf_lx S A.1 b1) := tf_k1_of (nw_1 h1j tf_sx_lx)
      refine ⟨tf_lx S A.1 b1, tf_Fn_of (own := RX10) false ⟨by decide, rfl, by decide⟩ (Nat.le_of_ble_eq_true rfl) trivial (fun x hx hR => ?_), cs_sx hA hC tf_sx_lx, fc_sx tf_sx_lx⟩
      show tf_K x 0 0 (tf_GG N) S 0 [some (.ref 4), some (.int (nI h1)), some (.int (nI b1))] []
      refine tf_go hx ftX10_far 1 [] 1 [some (.ref 4), some (.int (nI h1)), some (.int (nI b1))] [.int (nI h1)] S rfl ⟨by decide, by decide, rfl⟩ trivial ?_
      refine tf_cS hx ftX10_far (nx := 4) (As := [.int (nI h1)]) (rest := []) (st2 := [.int (if ¬ (nI h1) < 0 ∧ ¬ 4 ≤ (nI h1) then 0 else 1)]) (c_noHand (nI h1)) rfl lX10_122 rfl ⟨rfl, by decide, by decide, by decide, rfl, rfl⟩ ?_
      rw [if_pos c0]
      refine tf_go hx ftX10_far 1 [false] 7 [some (.ref 4), some (.int (nI h1)), some (.int (nI b1))] [] S rfl ⟨by decide, by decide, rfl⟩ ⟨trivial, (by decide)⟩ ?_
      refine tf_go hx ftX10_far 1 [] 8 [some (.ref 4), some (.int (nI h1)), some (.int (nI b1))] [.int (nI b1)] S rfl ⟨by decide, by decide, rfl⟩ trivial ?_
      refine tf_cS hx ftX10_far (nx := 11) (As := [.int (nI b1)]) (rest := []) (st2 := [.int (if ¬ (nI b1) < 0 ∧ ¬ 4 ≤ (nI b1) then 0 else 1)]) (c_noBoard (nI b1)) rfl lX10_61 rfl ⟨rfl, by decide, by decide, by decide, rfl, rfl⟩ ?_
      rw [if_pos c1]
      refine tf_go hx ftX10_far 1 [true] 20 [some (.ref 4), some (.int (nI h1)), some (.int (nI b1))] [] S rfl ⟨by decide, by decide, rfl⟩ ⟨trivial, (by decide)⟩ ?_
      have ar : tf_rf (tf_GG N) 6 (Int32.toNatClampNeg (nI b1)) = 7 + 3 * b1 := by rw [tf_cl_nI (by omega)]; exact (bdn b1_lt).2.2.2
      have arn : tf_rf (tf_GG N) 6 (Int32.toNatClampNeg (nI b1)) ≠ 0 := by rw [ar]; omega
      refine tf_go hx ftX10_far 10 [] 40 [some (.ref 4), some (.int (nI h1)), some (.int (nI b1))] [.ref (tf_rf (tf_GG N) 6 (Int32.toNatClampNeg (nI b1))), .ref 28, .ref 120] S rfl ⟨by decide, by decide, rfl⟩ ⟨⟨⟨⟨⟨⟨trivial, ⟨by first | assumption | rfl | decide | omega | exact Nat.succ_ne_zero _, by first | assumption | rfl | decide | omega | exact Nat.succ_ne_zero _⟩⟩, ⟨by first | assumption | rfl | decide | omega | exact Nat.succ_ne_zero _, by first | assumption | rfl | decide | omega | exact Nat.succ_ne_zero _⟩⟩, ⟨by first | assumption | rfl | decide | omega | exact Nat.succ_ne_zero _, by first | assumption | rfl | decide | omega | exact Nat.succ_ne_zero _⟩⟩, ⟨by first | assumption | rfl | decide | omega | exact Nat.succ_ne_zero _, by first | assumption | rfl | decide | omega | exact Nat.succ_ne_zero _⟩⟩, ⟨by first | assumption | rfl | decide | omega | exact Nat.succ_ne_zero _, by first | assumption | rfl | decide | omega | exact Nat.succ_ne_zero _⟩⟩, ⟨by first | assumption | exact Or.inl rfl | exact Or.inr (Or.inl rfl) | exact Or.inr (Or.inr rfl) | omega, by exact tf_in (n := b1) (N := 4) rfl (by first | assumption | rfl) (by omega) (by decide), by first | assumption | rfl | decide | omega | exact Nat.succ_ne_zero _⟩⟩ ?_
      rw [ar]
      clear ar arn
      have tb : tf_tg (tf_GG N) (7 + 3 * b1) = 0 := (bdn b1_lt).1.1
      refine tf_cV hx ftX10_far (nx := 43) (As := [.ref 28, .ref (7 + 3 * b1)]) (rest := []) (st2 := []) (n_lay hS hg hb b1_lt) rfl lX10_183 (by first | assumption | rfl | decide) rfl ⟨rfl, by decide, by decide, by decide, rfl, rfl⟩ ?_
      refine tf_go hx ftX10_far 5 [] 54 [some (.ref 4), some (.int (nI h1)), some (.int (nI b1))] [.ref 55, .ref 120] (tf_lx S A.1 b1) rfl ⟨by decide, by decide, rfl⟩ ⟨⟨⟨trivial, ⟨by first | assumption | rfl | decide | omega | exact Nat.succ_ne_zero _, by first | assumption | rfl | decide | omega | exact Nat.succ_ne_zero _⟩⟩, ⟨by first | assumption | rfl | decide | omega | exact Nat.succ_ne_zero _, by first | assumption | rfl | decide | omega | exact Nat.succ_ne_zero _⟩⟩, ⟨by first | assumption | rfl | decide | omega | exact Nat.succ_ne_zero _, by first | assumption | rfl | decide | omega | exact Nat.succ_ne_zero _⟩⟩ ?_
      have ar : tf_rf (tf_GG N) 19 (Int32.toNatClampNeg (nI h1)) = 20 + 2 * h1 := by rw [tf_cl_nI (by omega)]; exact (hdn h1_lt).2.2
      have arn : tf_rf (tf_GG N) 19 (Int32.toNatClampNeg (nI h1)) ≠ 0 := by rw [ar]; omega
      refine tf_go hx ftX10_far 5 [] 63 [some (.ref 4), some (.int (nI h1)), some (.int (nI b1))] [.ref (tf_rf (tf_GG N) 19 (Int32.toNatClampNeg (nI h1))), .ref 55, .ref 120] (tf_lx S A.1 b1) rfl ⟨by decide, by decide, rfl⟩ ⟨⟨⟨trivial, ⟨by first | assumption | rfl | decide | omega | exact Nat.succ_ne_zero _, by first | assumption | rfl | decide | omega | exact Nat.succ_ne_zero _⟩⟩, ⟨by first | assumption | rfl | decide | omega | exact Nat.succ_ne_zero _, by first | assumption | rfl | decide | omega | exact Nat.succ_ne_zero _⟩⟩, ⟨by first | assumption | exact Or.inl rfl | exact Or.inr (Or.inl rfl) | exact Or.inr (Or.inr rfl) | omega, by exact tf_in (n := h1) (N := 4) rfl (by first | assumption | rfl) (by omega) (by decide), by first | assumption | rfl | decide | omega | exact Nat.succ_ne_zero _⟩⟩ ?_
      rw [ar]
      clear ar arn
      have th : tf_tg (tf_GG N) (20 + 2 * h1) = 1 := (hdn h1_lt).1.1
      refine tf_cV hx ftX10_far (nx := 66) (As := [.ref 55, .ref (20 + 2 * h1)]) (rest := []) (st2 := [.int (nI (tf_fa A.1 h1 b1))]) (t_far (nw_K hg) hg hb (nw_R hS2 hg) (hdn h1_lt).1 (nw_H hS2 h1_lt) hk2 h1_lt) rfl lX10_187 (by first | assumption | rfl | decide) rfl ⟨rfl, by decide, by decide, by decide, rfl, rfl⟩ ?_
      exact tf_ret ftX10_far hR rfl ⟨by decide, by decide⟩ rfl rfl rfl
    · rw [if_neg (fun h => c1 h.2)]
      refine ⟨tf_set S 124 1 (S 124 1 + 1), tf_Fn_of (own := RX10) false ⟨by decide, rfl, by decide⟩ (Nat.le_of_ble_eq_true rfl) trivial (fun x hx hR => ?_), cs_ref hA hC 1, fc_set (by omega)⟩
      show tf_K x 0 0 (tf_GG N) S 0 [some (.ref 4), some (.int h), some (.int b)] []
      refine tf_go hx ftX10_far 1 [] 1 [some (.ref 4), some (.int h), some (.int b)] [.int h] S rfl ⟨by decide, by decide, rfl⟩ trivial ?_
      refine tf_cS hx ftX10_far (nx := 4) (As := [.int h]) (rest := []) (st2 := [.int (if ¬ h < 0 ∧ ¬ 4 ≤ h then 0 else 1)]) (c_noHand h) rfl lX10_122 rfl ⟨rfl, by decide, by decide, by decide, rfl, rfl⟩ ?_
      rw [if_pos c0]
      refine tf_go hx ftX10_far 1 [false] 7 [some (.ref 4), some (.int h), some (.int b)] [] S rfl ⟨by decide, by decide, rfl⟩ ⟨trivial, (by decide)⟩ ?_
      refine tf_go hx ftX10_far 1 [] 8 [some (.ref 4), some (.int h), some (.int b)] [.int b] S rfl ⟨by decide, by decide, rfl⟩ trivial ?_
      refine tf_cS hx ftX10_far (nx := 11) (As := [.int b]) (rest := []) (st2 := [.int (if ¬ b < 0 ∧ ¬ 4 ≤ b then 0 else 1)]) (c_noBoard b) rfl lX10_61 rfl ⟨rfl, by decide, by decide, by decide, rfl, rfl⟩ ?_
      rw [if_neg c1]
      refine tf_go hx ftX10_far 1 [false] 14 [some (.ref 4), some (.int h), some (.int b)] [] S rfl ⟨by decide, by decide, rfl⟩ ⟨trivial, (by decide)⟩ ?_
      refine tf_go hx ftX10_far 2 [] 16 [some (.ref 4), some (.int h), some (.int b)] [.int (-1), .ref 4] S rfl ⟨by decide, by decide, rfl⟩ trivial ?_
      refine tf_cV hx ftX10_far (nx := 19) (As := [.int (-1)]) (rest := []) (st2 := [.int (-1)]) (n_ref1) rfl lX10_50 (by first | assumption | rfl | decide) rfl ⟨rfl, by decide, by decide, by decide, rfl, rfl⟩ ?_
      exact tf_ret ftX10_far hR rfl ⟨by decide, by decide⟩ rfl rfl rfl
  · rw [if_neg (fun h => c0 h.1)]
    refine ⟨tf_set S 124 1 (S 124 1 + 1), tf_Fn_of (own := RX10) false ⟨by decide, rfl, by decide⟩ (Nat.le_of_ble_eq_true rfl) trivial (fun x hx hR => ?_), cs_ref hA hC 1, fc_set (by omega)⟩
    show tf_K x 0 0 (tf_GG N) S 0 [some (.ref 4), some (.int h), some (.int b)] []
    refine tf_go hx ftX10_far 1 [] 1 [some (.ref 4), some (.int h), some (.int b)] [.int h] S rfl ⟨by decide, by decide, rfl⟩ trivial ?_
    refine tf_cS hx ftX10_far (nx := 4) (As := [.int h]) (rest := []) (st2 := [.int (if ¬ h < 0 ∧ ¬ 4 ≤ h then 0 else 1)]) (c_noHand h) rfl lX10_122 rfl ⟨rfl, by decide, by decide, by decide, rfl, rfl⟩ ?_
    rw [if_neg c0]
    refine tf_go hx ftX10_far 1 [true] 14 [some (.ref 4), some (.int h), some (.int b)] [] S rfl ⟨by decide, by decide, rfl⟩ ⟨trivial, (by decide)⟩ ?_
    refine tf_go hx ftX10_far 2 [] 16 [some (.ref 4), some (.int h), some (.int b)] [.int (-1), .ref 4] S rfl ⟨by decide, by decide, rfl⟩ trivial ?_
    refine tf_cV hx ftX10_far (nx := 19) (As := [.int (-1)]) (rest := []) (st2 := [.int (-1)]) (n_ref1) rfl lX10_50 (by first | assumption | rfl | decide) rfl ⟨rfl, by decide, by decide, by decide, rfl, rfl⟩ ?_
    exact tf_ret ftX10_far hR rfl ⟨by decide, by decide⟩ rfl rfl rfl

set_option maxHeartbeats 2000000 in
theorem c_ache {N : Nat} {S : tf_Sg} {A : tf_A} (b q : Int32) (hA : tf_okA A) (hC : tf_cs S A)  : tf_cpq mX10_ache 6 N S [.ref 4, .int b, .int q] (s_ache A b q) := by
  obtain ⟨hg, hb, hA3, hA4, hA5, hA6⟩ := id hA
  obtain ⟨h1j, hS, hK5, ⟨hT1, hT2⟩, hRf, hIm⟩ := id hC
  obtain ⟨⟨g1, g2, g3, g4⟩, g5, g6, g7, g8, g9, g10, g11⟩ := id hg
  unfold s_ache
  by_cases c0 : ¬ b < 0 ∧ ¬ 4 ≤ b
  · by_cases c1 : ¬ q < 0 ∧ ¬ 8 ≤ q
    · rw [if_pos ⟨c0, c1⟩]
      obtain ⟨b1, b1_lt, b1_eq, b1_cl⟩ := tf_ok_nI (N := 4) (show tf_ok b _ from c0) rfl (by decide)
      try rw [b1_cl]
      obtain ⟨q1, q1_lt, q1_eq, q1_cl⟩ := tf_ok_nI (N := 8) (show tf_ok q _ from c1) rfl (by decide)
      try rw [q1_cl]
      subst b1_eq
      subst q1_eq
      have hS2 : tf_st (tf_lx S A.1 b1) 5 A.1 := nw_st hS hg tf_sx_lx
      have hk2 : tf_k1 (tf_GG N) (tf_lx S A.1 b1) := tf_k1_of (nw_1 h1j tf_sx_lx)
      refine ⟨tf_lx S A.1 b1, tf_Fn_of (own := RX10) false ⟨by decide, rfl, by decide⟩ (Nat.le_of_ble_eq_true rfl) trivial (fun x hx hR => ?_), cs_sx hA hC tf_sx_lx, fc_sx tf_sx_lx⟩
      show tf_K x 0 0 (tf_GG N) S 0 [some (.ref 4), some (.int (nI b1)), some (.int (nI q1))] []
      refine tf_go hx ftX10_ache 1 [] 1 [some (.ref 4), some (.int (nI b1)), some (.int (nI q1))] [.int (nI b1)] S rfl ⟨by decide, by decide, rfl⟩ trivial ?_
      refine tf_cS hx ftX10_ache (nx := 4) (As := [.int (nI b1)]) (rest := []) (st2 := [.int (if ¬ (nI b1) < 0 ∧ ¬ 4 ≤ (nI b1) then 0 else 1)]) (c_noBoard (nI b1)) rfl lX10_61 rfl ⟨rfl, by decide, by decide, by decide, rfl, rfl⟩ ?_
      rw [if_pos c0]
      refine tf_go hx ftX10_ache 1 [false] 7 [some (.ref 4), some (.int (nI b1)), some (.int (nI q1))] [] S rfl ⟨by decide, by decide, rfl⟩ ⟨trivial, (by decide)⟩ ?_
      refine tf_go hx ftX10_ache 1 [] 8 [some (.ref 4), some (.int (nI b1)), some (.int (nI q1))] [.int (nI q1)] S rfl ⟨by decide, by decide, rfl⟩ trivial ?_
      refine tf_go hx ftX10_ache 1 [false] 11 [some (.ref 4), some (.int (nI b1)), some (.int (nI q1))] [] S rfl ⟨by decide, by decide, rfl⟩ ⟨trivial, (tf_ltF (a := q1) (b := 0) rfl (rfl : (0 : Int32) = nI 0) (by omega) (by omega) (by omega))⟩ ?_
      refine tf_go hx ftX10_ache 2 [] 14 [some (.ref 4), some (.int (nI b1)), some (.int (nI q1))] [.int 8, .int (nI q1)] S rfl ⟨by decide, by decide, rfl⟩ trivial ?_
      refine tf_go hx ftX10_ache 1 [true] 23 [some (.ref 4), some (.int (nI b1)), some (.int (nI q1))] [] S rfl ⟨by decide, by decide, rfl⟩ ⟨trivial, (tf_ltT (a := q1) (b := 8) rfl (rfl : (8 : Int32) = nI 8) (by omega) (by omega) (by omega))⟩ ?_
      have ar : tf_rf (tf_GG N) 6 (Int32.toNatClampNeg (nI b1)) = 7 + 3 * b1 := by rw [tf_cl_nI (by omega)]; exact (bdn b1_lt).2.2.2
      have arn : tf_rf (tf_GG N) 6 (Int32.toNatClampNeg (nI b1)) ≠ 0 := by rw [ar]; omega
      refine tf_go hx ftX10_ache 10 [] 43 [some (.ref 4), some (.int (nI b1)), some (.int (nI q1))] [.ref (tf_rf (tf_GG N) 6 (Int32.toNatClampNeg (nI b1))), .ref 28, .ref 120] S rfl ⟨by decide, by decide, rfl⟩ ⟨⟨⟨⟨⟨⟨trivial, ⟨by first | assumption | rfl | decide | omega | exact Nat.succ_ne_zero _, by first | assumption | rfl | decide | omega | exact Nat.succ_ne_zero _⟩⟩, ⟨by first | assumption | rfl | decide | omega | exact Nat.succ_ne_zero _, by first | assumption | rfl | decide | omega | exact Nat.succ_ne_zero _⟩⟩, ⟨by first | assumption | rfl | decide | omega | exact Nat.succ_ne_zero _, by first | assumption | rfl | decide | omega | exact Nat.succ_ne_zero _⟩⟩, ⟨by first | assumption | rfl | decide | omega | exact Nat.succ_ne_zero _, by first | assumption | rfl | decide | omega | exact Nat.succ_ne_zero _⟩⟩, ⟨by first | assumption | rfl | decide | omega | exact Nat.succ_ne_zero _, by first | assumption | rfl | decide | omega | exact Nat.succ_ne_zero _⟩⟩, ⟨by first | assumption | exact Or.inl rfl | exact Or.inr (Or.inl rfl) | exact Or.inr (Or.inr rfl) | omega, by exact tf_in (n := b1) (N := 4) rfl (by first | assumption | rfl) (by omega) (by decide), by first | assumption | rfl | decide | omega | exact Nat.succ_ne_zero _⟩⟩ ?_
      rw [ar]
      clear ar arn
      have tb : tf_tg (tf_GG N) (7 + 3 * b1) = 0 := (bdn b1_lt).1.1
      refine tf_cV hx ftX10_ache (nx := 46) (As := [.ref 28, .ref (7 + 3 * b1)]) (rest := []) (st2 := []) (n_lay hS hg hb b1_lt) rfl lX10_183 (by first | assumption | rfl | decide) rfl ⟨rfl, by decide, by decide, by decide, rfl, rfl⟩ ?_
      refine tf_go hx ftX10_ache 3 [] 51 [some (.ref 4), some (.int (nI b1)), some (.int (nI q1))] [.int (nI q1), .ref 120] (tf_lx S A.1 b1) rfl ⟨by decide, by decide, rfl⟩ ⟨trivial, ⟨by first | assumption | rfl | decide | omega | exact Nat.succ_ne_zero _, by first | assumption | rfl | decide | omega | exact Nat.succ_ne_zero _⟩⟩ ?_
      refine tf_cV hx ftX10_ache (nx := 54) (As := [.int (nI q1)]) (rest := []) (st2 := [.int (nI (tf_as A.1 b1 q1 41 0))]) (t_acheOf (nw_K hg) hg hb hk2 q1_lt) rfl lX10_198 (by first | assumption | rfl | decide) rfl ⟨rfl, by decide, by decide, by decide, rfl, rfl⟩ ?_
      exact tf_ret ftX10_ache hR rfl ⟨by decide, by decide⟩ rfl rfl rfl
    · rw [if_neg (fun h => c1 h.2)]
      refine ⟨tf_set S 124 1 (S 124 1 + 1), tf_Fn_of (own := RX10) false ⟨by decide, rfl, by decide⟩ (Nat.le_of_ble_eq_true rfl) trivial (fun x hx hR => ?_), cs_ref hA hC 1, fc_set (by omega)⟩
      show tf_K x 0 0 (tf_GG N) S 0 [some (.ref 4), some (.int b), some (.int q)] []
      refine tf_go hx ftX10_ache 1 [] 1 [some (.ref 4), some (.int b), some (.int q)] [.int b] S rfl ⟨by decide, by decide, rfl⟩ trivial ?_
      refine tf_cS hx ftX10_ache (nx := 4) (As := [.int b]) (rest := []) (st2 := [.int (if ¬ b < 0 ∧ ¬ 4 ≤ b then 0 else 1)]) (c_noBoard b) rfl lX10_61 rfl ⟨rfl, by decide, by decide, by decide, rfl, rfl⟩ ?_
      rw [if_pos c0]
      refine tf_go hx ftX10_ache 1 [false] 7 [some (.ref 4), some (.int b), some (.int q)] [] S rfl ⟨by decide, by decide, rfl⟩ ⟨trivial, (by decide)⟩ ?_
      refine tf_go hx ftX10_ache 1 [] 8 [some (.ref 4), some (.int b), some (.int q)] [.int q] S rfl ⟨by decide, by decide, rfl⟩ trivial ?_
      by_cases z0 : q < 0
      · refine tf_go hx ftX10_ache 1 [true] 17 [some (.ref 4), some (.int b), some (.int q)] [] S rfl ⟨by decide, by decide, rfl⟩ ⟨trivial, (by first | assumption | rfl | decide | omega | exact Nat.succ_ne_zero _)⟩ ?_
        refine tf_go hx ftX10_ache 2 [] 19 [some (.ref 4), some (.int b), some (.int q)] [.int (-1), .ref 4] S rfl ⟨by decide, by decide, rfl⟩ trivial ?_
        refine tf_cV hx ftX10_ache (nx := 22) (As := [.int (-1)]) (rest := []) (st2 := [.int (-1)]) (n_ref1) rfl lX10_50 (by first | assumption | rfl | decide) rfl ⟨rfl, by decide, by decide, by decide, rfl, rfl⟩ ?_
        exact tf_ret ftX10_ache hR rfl ⟨by decide, by decide⟩ rfl rfl rfl
      · refine tf_go hx ftX10_ache 1 [false] 11 [some (.ref 4), some (.int b), some (.int q)] [] S rfl ⟨by decide, by decide, rfl⟩ ⟨trivial, (by first | assumption | rfl | decide | omega | exact Nat.succ_ne_zero _)⟩ ?_
        refine tf_go hx ftX10_ache 2 [] 14 [some (.ref 4), some (.int b), some (.int q)] [.int 8, .int q] S rfl ⟨by decide, by decide, rfl⟩ trivial ?_
        have z1 : 8 ≤ q := Classical.not_not.mp (fun z => c1 ⟨z0, z⟩)
        refine tf_go hx ftX10_ache 1 [false] 17 [some (.ref 4), some (.int b), some (.int q)] [] S rfl ⟨by decide, by decide, rfl⟩ ⟨trivial, (Int32.not_lt.mpr z1)⟩ ?_
        refine tf_go hx ftX10_ache 2 [] 19 [some (.ref 4), some (.int b), some (.int q)] [.int (-1), .ref 4] S rfl ⟨by decide, by decide, rfl⟩ trivial ?_
        refine tf_cV hx ftX10_ache (nx := 22) (As := [.int (-1)]) (rest := []) (st2 := [.int (-1)]) (n_ref1) rfl lX10_50 (by first | assumption | rfl | decide) rfl ⟨rfl, by decide, by decide, by decide, rfl, rfl⟩ ?_
        exact tf_ret ftX10_ache hR rfl ⟨by decide, by decide⟩ rfl rfl rfl
  · rw [if_neg (fun h => c0 h.1)]
    refine ⟨tf_set S 124 1 (S 124 1 + 1), tf_Fn_of (own := RX10) false ⟨by decide, rfl, by decide⟩ (Nat.le_of_ble_eq_true rfl) trivial (fun x hx hR => ?_), cs_ref hA hC 1, fc_set (by omega)⟩
    show tf_K x 0 0 (tf_GG N) S 0 [some (.ref 4), some (.int b), some (.int q)] []
    refine tf_go hx ftX10_ache 1 [] 1 [some (.ref 4), some (.int b), some (.int q)] [.int b] S rfl ⟨by decide, by decide, rfl⟩ trivial ?_
    refine tf_cS hx ftX10_ache (nx := 4) (As := [.int b]) (rest := []) (st2 := [.int (if ¬ b < 0 ∧ ¬ 4 ≤ b then 0 else 1)]) (c_noBoard b) rfl lX10_61 rfl ⟨rfl, by decide, by decide, by decide, rfl, rfl⟩ ?_
    rw [if_neg c0]
    refine tf_go hx ftX10_ache 1 [true] 17 [some (.ref 4), some (.int b), some (.int q)] [] S rfl ⟨by decide, by decide, rfl⟩ ⟨trivial, (by decide)⟩ ?_
    refine tf_go hx ftX10_ache 2 [] 19 [some (.ref 4), some (.int b), some (.int q)] [.int (-1), .ref 4] S rfl ⟨by decide, by decide, rfl⟩ trivial ?_
    refine tf_cV hx ftX10_ache (nx := 22) (As := [.int (-1)]) (rest := []) (st2 := [.int (-1)]) (n_ref1) rfl lX10_50 (by first | assumption | rfl | decide) rfl ⟨rfl, by decide, by decide, by decide, rfl, rfl⟩ ?_
    exact tf_ret ftX10_ache hR rfl ⟨by decide, by decide⟩ rfl rfl rfl

