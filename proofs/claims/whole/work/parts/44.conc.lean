/-! THE HEAP behind the constructors: 4 the class (now 5 .. 56, kept 57 .. 108, tape 109, pieces 111 .., strokes 120 .., refused 124), 125 the reference -/
def tf_GG (N : Nat) : tf_G := [(99, 0, []), (14, 10, []), (14, 6, []), (14, N, []), (7, 0, [5, 57, 109, 111, 120, 124, 0]), (4, 0, [6, 19, 28, 30, 32, 55]), (11, 4, [7, 10, 13, 16]), (0, 0, [8, 9]), (9, 30, []), (9, 26, []),
  (0, 0, [11, 12]), (9, 30, []), (9, 26, []), (0, 0, [14, 15]), (9, 30, []), (9, 26, []), (0, 0, [17, 18]), (9, 30, []), (9, 26, []), (12, 4, [20, 22, 24, 26]),
  (1, 0, [21]), (9, 6, []), (1, 0, [23]), (9, 6, []), (1, 0, [25]), (9, 6, []), (1, 0, [27]), (9, 6, []), (3, 0, [29, 0]), (9, 40, []),
  (3, 0, [31, 0]), (9, 40, []), (6, 0, [33, 54, 0]), (13, 10, [34, 36, 38, 40, 42, 44, 46, 48, 50, 52]), (3, 0, [35, 0]), (9, 8, []), (3, 0, [37, 0]), (9, 8, []), (3, 0, [39, 0]), (9, 8, []),
  (3, 0, [41, 0]), (9, 8, []), (3, 0, [43, 0]), (9, 8, []), (3, 0, [45, 0]), (9, 8, []), (3, 0, [47, 0]), (9, 8, []), (3, 0, [49, 0]), (9, 8, []),
  (3, 0, [51, 0]), (9, 8, []), (3, 0, [53, 0]), (9, 8, []), (9, 10, []), (3, 0, [56, 0]), (9, 40, []), (4, 0, [58, 71, 80, 82, 84, 107]), (11, 4, [59, 62, 65, 68]), (0, 0, [60, 61]),
  (9, 30, []), (9, 26, []), (0, 0, [63, 64]), (9, 30, []), (9, 26, []), (0, 0, [66, 67]), (9, 30, []), (9, 26, []), (0, 0, [69, 70]), (9, 30, []),
  (9, 26, []), (12, 4, [72, 74, 76, 78]), (1, 0, [73]), (9, 6, []), (1, 0, [75]), (9, 6, []), (1, 0, [77]), (9, 6, []), (1, 0, [79]), (9, 6, []),
  (3, 0, [81, 0]), (9, 40, []), (3, 0, [83, 0]), (9, 40, []), (6, 0, [85, 106, 0]), (13, 10, [86, 88, 90, 92, 94, 96, 98, 100, 102, 104]), (3, 0, [87, 0]), (9, 8, []), (3, 0, [89, 0]), (9, 8, []),
  (3, 0, [91, 0]), (9, 8, []), (3, 0, [93, 0]), (9, 8, []), (3, 0, [95, 0]), (9, 8, []), (3, 0, [97, 0]), (9, 8, []), (3, 0, [99, 0]), (9, 8, []),
  (3, 0, [101, 0]), (9, 8, []), (3, 0, [103, 0]), (9, 8, []), (3, 0, [105, 0]), (9, 8, []), (9, 10, []), (3, 0, [108, 0]), (9, 40, []), (3, 0, [110, 0]),
  (9, 48, []), (2, 0, [112, 114, 116, 118]), (3, 0, [113, 0]), (9, 40, []), (3, 0, [115, 0]), (9, 40, []), (3, 0, [117, 0]), (9, 40, []), (3, 0, [119, 0]), (9, 40, []),
  (5, 0, [121, 123]), (3, 0, [122, 0]), (9, 40, []), (10, 30, []), (9, 7, []), (8, 0, [126, 127, 128, 0, 129, 0]), (9, 7, []), (9, 368, []), (9, 368, []), (9, 48, [])]
theorem se28 {N : Nat} : tf_se (tf_GG N) 28 40 := ⟨rfl, rfl, Nat.succ_ne_zero _, rfl, by decide⟩
theorem se30 {N : Nat} : tf_se (tf_GG N) 30 40 := ⟨rfl, rfl, Nat.succ_ne_zero _, rfl, by decide⟩
theorem se34 {N : Nat} : tf_se (tf_GG N) 34 8 := ⟨rfl, rfl, Nat.succ_ne_zero _, rfl, by decide⟩
theorem se36 {N : Nat} : tf_se (tf_GG N) 36 8 := ⟨rfl, rfl, Nat.succ_ne_zero _, rfl, by decide⟩
theorem se38 {N : Nat} : tf_se (tf_GG N) 38 8 := ⟨rfl, rfl, Nat.succ_ne_zero _, rfl, by decide⟩
theorem se40 {N : Nat} : tf_se (tf_GG N) 40 8 := ⟨rfl, rfl, Nat.succ_ne_zero _, rfl, by decide⟩
theorem se42 {N : Nat} : tf_se (tf_GG N) 42 8 := ⟨rfl, rfl, Nat.succ_ne_zero _, rfl, by decide⟩
theorem se44 {N : Nat} : tf_se (tf_GG N) 44 8 := ⟨rfl, rfl, Nat.succ_ne_zero _, rfl, by decide⟩
theorem se46 {N : Nat} : tf_se (tf_GG N) 46 8 := ⟨rfl, rfl, Nat.succ_ne_zero _, rfl, by decide⟩
theorem se48 {N : Nat} : tf_se (tf_GG N) 48 8 := ⟨rfl, rfl, Nat.succ_ne_zero _, rfl, by decide⟩
theorem se50 {N : Nat} : tf_se (tf_GG N) 50 8 := ⟨rfl, rfl, Nat.succ_ne_zero _, rfl, by decide⟩
theorem se52 {N : Nat} : tf_se (tf_GG N) 52 8 := ⟨rfl, rfl, Nat.succ_ne_zero _, rfl, by decide⟩
theorem se55 {N : Nat} : tf_se (tf_GG N) 55 40 := ⟨rfl, rfl, Nat.succ_ne_zero _, rfl, by decide⟩
theorem se80 {N : Nat} : tf_se (tf_GG N) 80 40 := ⟨rfl, rfl, Nat.succ_ne_zero _, rfl, by decide⟩
theorem se82 {N : Nat} : tf_se (tf_GG N) 82 40 := ⟨rfl, rfl, Nat.succ_ne_zero _, rfl, by decide⟩
theorem se86 {N : Nat} : tf_se (tf_GG N) 86 8 := ⟨rfl, rfl, Nat.succ_ne_zero _, rfl, by decide⟩
theorem se88 {N : Nat} : tf_se (tf_GG N) 88 8 := ⟨rfl, rfl, Nat.succ_ne_zero _, rfl, by decide⟩
theorem se90 {N : Nat} : tf_se (tf_GG N) 90 8 := ⟨rfl, rfl, Nat.succ_ne_zero _, rfl, by decide⟩
theorem se92 {N : Nat} : tf_se (tf_GG N) 92 8 := ⟨rfl, rfl, Nat.succ_ne_zero _, rfl, by decide⟩
theorem se94 {N : Nat} : tf_se (tf_GG N) 94 8 := ⟨rfl, rfl, Nat.succ_ne_zero _, rfl, by decide⟩
theorem se96 {N : Nat} : tf_se (tf_GG N) 96 8 := ⟨rfl, rfl, Nat.succ_ne_zero _, rfl, by decide⟩
theorem se98 {N : Nat} : tf_se (tf_GG N) 98 8 := ⟨rfl, rfl, Nat.succ_ne_zero _, rfl, by decide⟩
theorem se100 {N : Nat} : tf_se (tf_GG N) 100 8 := ⟨rfl, rfl, Nat.succ_ne_zero _, rfl, by decide⟩
theorem se102 {N : Nat} : tf_se (tf_GG N) 102 8 := ⟨rfl, rfl, Nat.succ_ne_zero _, rfl, by decide⟩
theorem se104 {N : Nat} : tf_se (tf_GG N) 104 8 := ⟨rfl, rfl, Nat.succ_ne_zero _, rfl, by decide⟩
theorem se107 {N : Nat} : tf_se (tf_GG N) 107 40 := ⟨rfl, rfl, Nat.succ_ne_zero _, rfl, by decide⟩
theorem se109 {N : Nat} : tf_se (tf_GG N) 109 48 := ⟨rfl, rfl, Nat.succ_ne_zero _, rfl, by decide⟩
theorem se112 {N : Nat} : tf_se (tf_GG N) 112 40 := ⟨rfl, rfl, Nat.succ_ne_zero _, rfl, by decide⟩
theorem se114 {N : Nat} : tf_se (tf_GG N) 114 40 := ⟨rfl, rfl, Nat.succ_ne_zero _, rfl, by decide⟩
theorem se116 {N : Nat} : tf_se (tf_GG N) 116 40 := ⟨rfl, rfl, Nat.succ_ne_zero _, rfl, by decide⟩
theorem se118 {N : Nat} : tf_se (tf_GG N) 118 40 := ⟨rfl, rfl, Nat.succ_ne_zero _, rfl, by decide⟩
theorem se121 {N : Nat} : tf_se (tf_GG N) 121 40 := ⟨rfl, rfl, Nat.succ_ne_zero _, rfl, by decide⟩
theorem bdn {N b : Nat} (hb : b < 4) : tf_bd (tf_GG N) (7 + 3 * b) ∧ tf_rf (tf_GG N) (7 + 3 * b) 0 = 8 + 3 * b ∧ tf_rf (tf_GG N) (7 + 3 * b) 1 = 9 + 3 * b ∧ tf_rf (tf_GG N) 6 b = 7 + 3 * b := by
  have h0 : b = 0 ∨ b = 1 ∨ b = 2 ∨ b = 3 := by omega
  rcases h0 with h | h | h | h <;> subst h <;> exact ⟨⟨rfl, ⟨Nat.succ_ne_zero _, rfl, rfl⟩, ⟨Nat.succ_ne_zero _, rfl, rfl⟩, Nat.ne_of_lt (Nat.lt_succ_self _)⟩, rfl, rfl, rfl⟩
theorem hdn {N b : Nat} (hb : b < 4) : tf_hn (tf_GG N) (20 + 2 * b) ∧ tf_rf (tf_GG N) (20 + 2 * b) 0 = 21 + 2 * b ∧ tf_rf (tf_GG N) 19 b = 20 + 2 * b := by
  have h0 : b = 0 ∨ b = 1 ∨ b = 2 ∨ b = 3 := by omega
  rcases h0 with h | h | h | h <;> subst h <;> exact ⟨⟨rfl, Nat.succ_ne_zero _, rfl, rfl⟩, rfl, rfl⟩
theorem wdn {N b : Nat} (hb : b < 10) : tf_se (tf_GG N) (34 + 2 * b) 8 ∧ tf_rf (tf_GG N) (34 + 2 * b) 0 = 35 + 2 * b ∧ tf_rf (tf_GG N) 33 b = 34 + 2 * b := by
  have h0 : b = 0 ∨ b = 1 ∨ b = 2 ∨ b = 3 ∨ b = 4 ∨ b = 5 ∨ b = 6 ∨ b = 7 ∨ b = 8 ∨ b = 9 := by omega
  rcases h0 with h | h | h | h | h | h | h | h | h | h <;> subst h <;> exact ⟨⟨rfl, rfl, Nat.succ_ne_zero _, rfl, by decide⟩, rfl, rfl⟩
theorem bdk {N b : Nat} (hb : b < 4) : tf_bd (tf_GG N) (59 + 3 * b) ∧ tf_rf (tf_GG N) (59 + 3 * b) 0 = 60 + 3 * b ∧ tf_rf (tf_GG N) (59 + 3 * b) 1 = 61 + 3 * b ∧ tf_rf (tf_GG N) 58 b = 59 + 3 * b := by
  have h0 : b = 0 ∨ b = 1 ∨ b = 2 ∨ b = 3 := by omega
  rcases h0 with h | h | h | h <;> subst h <;> exact ⟨⟨rfl, ⟨Nat.succ_ne_zero _, rfl, rfl⟩, ⟨Nat.succ_ne_zero _, rfl, rfl⟩, Nat.ne_of_lt (Nat.lt_succ_self _)⟩, rfl, rfl, rfl⟩
theorem hdk {N b : Nat} (hb : b < 4) : tf_hn (tf_GG N) (72 + 2 * b) ∧ tf_rf (tf_GG N) (72 + 2 * b) 0 = 73 + 2 * b ∧ tf_rf (tf_GG N) 71 b = 72 + 2 * b := by
  have h0 : b = 0 ∨ b = 1 ∨ b = 2 ∨ b = 3 := by omega
  rcases h0 with h | h | h | h <;> subst h <;> exact ⟨⟨rfl, Nat.succ_ne_zero _, rfl, rfl⟩, rfl, rfl⟩
theorem wdk {N b : Nat} (hb : b < 10) : tf_se (tf_GG N) (86 + 2 * b) 8 ∧ tf_rf (tf_GG N) (86 + 2 * b) 0 = 87 + 2 * b ∧ tf_rf (tf_GG N) 85 b = 86 + 2 * b := by
  have h0 : b = 0 ∨ b = 1 ∨ b = 2 ∨ b = 3 ∨ b = 4 ∨ b = 5 ∨ b = 6 ∨ b = 7 ∨ b = 8 ∨ b = 9 := by omega
  rcases h0 with h | h | h | h | h | h | h | h | h | h <;> subst h <;> exact ⟨⟨rfl, rfl, Nat.succ_ne_zero _, rfl, by decide⟩, rfl, rfl⟩
/-! THE STATE in the class's heap, from the object s on: f -/
def tf_stB (S : tf_Sg) (s : Nat) (f : Nat → Nat) : Prop := ∀ b, b < 4 → (∀ k, k < 30 → S (s + 3 + 3 * b) k = tf_vo (f (30 * b + k))) ∧ (∀ l, l < 26 → S (s + 4 + 3 * b) l = tf_on 30 (tf_ke f b l))
def tf_stH (S : tf_Sg) (s : Nat) (f : Nat → Nat) : Prop := ∀ h, h < 4 → ∀ l, l < 6 → S (s + 16 + 2 * h) l = nI (f (120 + 6 * h + l))
def tf_stS (S : tf_Sg) (o c a : Nat) (f : Nat → Nat) : Prop := S o 1 = nI (f c) ∧ ∀ j, j < f c → S (o + 1) j = nI (f (a + j))
def tf_stV (S : tf_Sg) (s : Nat) (f : Nat → Nat) : Prop := S (s + 27) 2 = nI (f 366) ∧ (∀ w, w < f 366 → S (s + 29 + 2 * w) 1 = nI (f (224 + 10 * w)) ∧ (∀ j, j < f (224 + 10 * w) → S (s + 30 + 2 * w) j = nI (f (224 + 10 * w + 2 + j))) ∧ S (s + 49) w = nI (f (224 + 10 * w + 1))) ∧ (∀ w, w < 10 → ∃ m, m ≤ 8 ∧ S (s + 29 + 2 * w) 1 = nI m)
def tf_st (S : tf_Sg) (s : Nat) (f : Nat → Nat) : Prop := tf_stB S s f ∧ tf_stH S s f ∧ tf_stS S (s + 23) 364 144 f ∧ tf_stS S (s + 25) 365 184 f ∧ tf_stV S s f ∧ tf_stS S (s + 50) 367 324 f
theorem tf_ke_c {f f' : Nat → Nat} {b : Nat} (h : ∀ k, k < 30 → f' (30 * b + k) = f (30 * b + k)) (l : Nat) : tf_ke f' b l = tf_ke f b l := by
  unfold tf_ke
  have h1 : ∀ n k, k + n = 30 → tf_fst (fun i => f' (30 * b + i) == l + 1) n k = tf_fst (fun i => f (30 * b + i) == l + 1) n k := by
    intro n
    induction n with
    | zero => intro k _; rfl
    | succ n ih =>
      intro k hk
      by_cases q : (f (30 * b + k) == l + 1) = true
      · rw [tf_fst_y (P := fun i => f (30 * b + i) == l + 1) q, tf_fst_y (P := fun i => f' (30 * b + i) == l + 1) (by rw [h k (by omega)]; exact q)]
      · rw [tf_fst_n (P := fun i => f (30 * b + i) == l + 1) q, tf_fst_n (P := fun i => f' (30 * b + i) == l + 1) (by rw [h k (by omega)]; exact q), ih (k + 1) (by omega)]
  exact h1 30 0 rfl
theorem tf_stB_c {S S' : tf_Sg} {s : Nat} {f f' : Nat → Nat} (h : tf_stB S s f) (hS : ∀ a, s + 3 ≤ a → a ≤ s + 13 → S' a = S a) (hf : ∀ k, k < 120 → f' k = f k) : tf_stB S' s f' := by
  intro b hb
  obtain ⟨h1, h2⟩ := h b hb
  refine ⟨fun k hk => ?_, fun l hl => ?_⟩
  · rw [hS _ (by omega) (by omega), hf _ (by omega)]; exact h1 k hk
  · rw [hS _ (by omega) (by omega), tf_ke_c (fun k hk => hf _ (by omega)) l]; exact h2 l hl
theorem tf_stH_c {S S' : tf_Sg} {s : Nat} {f f' : Nat → Nat} (h : tf_stH S s f) (hS : ∀ a, s + 16 ≤ a → a ≤ s + 22 → S' a = S a) (hf : ∀ k, 120 ≤ k → k < 144 → f' k = f k) : tf_stH S' s f' := by
  intro b hb l hl
  rw [hS _ (by omega) (by omega), hf _ (by omega) (by omega)]
  exact h b hb l hl
theorem tf_stS_c {S S' : tf_Sg} {o c a : Nat} {f f' : Nat → Nat} (h : tf_stS S o c a f) (h1 : S' o = S o) (h2 : S' (o + 1) = S (o + 1)) (hc : f' c = f c) (hf : ∀ j, j < f c → f' (a + j) = f (a + j)) : tf_stS S' o c a f' := by
  unfold tf_stS
  rw [h1, h2, hc]
  exact ⟨h.1, fun j hj => by rw [hf j hj]; exact h.2 j hj⟩
theorem tf_stV_c {S S' : tf_Sg} {s : Nat} {f f' : Nat → Nat} (h : tf_stV S s f) (hg : tf_gd f) (hS : ∀ a, s + 27 ≤ a → a ≤ s + 49 → S' a = S a) (h6 : f' 366 = f 366) (hf : ∀ k, 224 ≤ k → k < 324 → f' k = f k) : tf_stV S' s f' := by
  have g1 := hg.1.2.2.1
  obtain ⟨h1, h2, h3⟩ := h
  refine ⟨by rw [hS _ (by omega) (by omega), h6]; exact h1, fun w hw => ?_, fun w hw => by rw [hS _ (by omega) (by omega)]; exact h3 w hw⟩
  rw [h6] at hw
  have g2 := hg.2.1 w hw
  obtain ⟨q1, q2, q3⟩ := h2 w hw
  rw [hS _ (by omega) (by omega), hS _ (by omega) (by omega), hS _ (by omega) (by omega), hf _ (by omega) (by omega), hf _ (by omega) (by omega)]
  exact ⟨q1, fun j hj => by rw [hf _ (by omega) (by omega)]; exact q2 j hj, q3⟩
theorem tf_st_c {S S' : tf_Sg} {s : Nat} {f : Nat → Nat} (h : tf_st S s f) (hg : tf_gd f) (hS : ∀ a, s ≤ a → a < s + 52 → S' a = S a) : tf_st S' s f := by
  have hc : ∀ {o c a : Nat}, s ≤ o → o + 1 < s + 52 → tf_stS S o c a f → tf_stS S' o c a f := fun h1 h2 q => tf_stS_c q (hS _ h1 (by omega)) (hS _ (by omega) h2) rfl (fun _ _ => rfl)
  exact ⟨tf_stB_c h.1 (fun a h1 h2 => hS a (by omega) (by omega)) (fun _ _ => rfl), tf_stH_c h.2.1 (fun a h1 h2 => hS a (by omega) (by omega)) (fun _ _ _ => rfl), hc (by omega) (by omega) h.2.2.1, hc (by omega) (by omega) h.2.2.2.1, tf_stV_c h.2.2.2.2.1 hg (fun a h1 h2 => hS a (by omega) (by omega)) rfl (fun _ _ _ => rfl), hc (by omega) (by omega) h.2.2.2.2.2⟩
/-- the class holds the state -/
def tf_cs (S : tf_Sg) (A : tf_A) : Prop := (∀ j, j < 10 → S 1 j = nI (tf_fi j 0)) ∧ tf_st S 5 A.1 ∧ (A.2.2.2.2.2 = 1 → tf_st S 57 A.2.2.2.2.1) ∧ (S 109 1 = nI A.2.2.1 ∧ ∀ j, S 110 j = nI (A.2.1 j)) ∧ (∀ j, S 124 j = A.2.2.2.1 j) ∧ S 4 6 = nI A.2.2.2.2.2
theorem tf_k1_of {N : Nat} {S : tf_Sg} (h : ∀ j, j < 10 → S 1 j = nI (tf_fi j 0)) : tf_k1 (tf_GG N) S := ⟨rfl, rfl, h⟩
theorem tf_sV_of {G : tf_G} {S : tf_Sg} {o c a cap : Nat} {f : Nat → Nat} (h : tf_stS S o c a f) (hs : tf_se G o cap) (hr : tf_rf G o 0 = o + 1) (hl : f c ≤ cap) : tf_sV G S o cap (f c) (fun j => nI (f (a + j))) := ⟨hs, h.1, hl, by rw [hr]; exact h.2⟩

