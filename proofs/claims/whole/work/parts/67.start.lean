/-! THE START: what is made holds the new state -/
def tf_A0 : tf_A := (tf_i0 4, fun _ => 0, 0, fun _ => 0, fun _ => 0, 0)
theorem tf_l0_le (m : Nat) : tf_l0 m ≤ 150 := by unfold tf_l0; repeat (first | split | omega)
theorem tf_i0_n {k : Nat} (h : k < 120 ∨ 144 ≤ k) : tf_i0 4 k = 0 := if_neg (by omega)
theorem tf_i0_y {h l : Nat} (hh : h < 4) (hl : l < 6) : tf_i0 4 (120 + 6 * h + l) = tf_l0 l := by
  unfold tf_i0
  rw [if_pos (by omega), show (120 + 6 * h + l - 120) % 6 = l by omega]
theorem tf_i0_le (k : Nat) : tf_i0 4 k ≤ 150 := by
  unfold tf_i0
  split
  · exact tf_l0_le _
  · omega
theorem gd_0 : tf_gd (tf_i0 4) := by
  refine ⟨⟨by rw [tf_i0_n (by omega)]; omega, by rw [tf_i0_n (by omega)]; omega, by rw [tf_i0_n (by omega)]; omega, by rw [tf_i0_n (by omega)]; omega⟩, fun w hw => ?_, fun i hi => ?_, fun i hi => ?_, fun w hw j hj => ?_, fun i _ => Nat.le_trans (tf_i0_le _) (by decide), fun k hk => ?_, fun b hb k j hk hj h0 h1 => ?_⟩
  · rw [tf_i0_n (by omega)] at hw; exact absurd hw (Nat.not_lt_zero _)
  · rw [tf_i0_n (by omega)] at hi; exact absurd hi (Nat.not_lt_zero _)
  · rw [tf_i0_n (by omega)] at hi; exact absurd hi (Nat.not_lt_zero _)
  · rw [tf_i0_n (by omega)] at hw; exact absurd hw (Nat.not_lt_zero _)
  · rw [tf_i0_n (by omega)]; omega
  · exact absurd (tf_i0_n (by omega)) h1
theorem ok_0 : tf_okA tf_A0 := ⟨gd_0, fun k => Nat.lt_of_le_of_lt (tf_i0_le k) (by decide), Nat.zero_le _, fun _ => (show 0 < 256 by decide), fun _ => (show 0 < 10000 by decide), Or.inl rfl⟩
theorem iB_at {S : tf_Sg} {s : Nat} : ∀ {k b : Nat}, b < k → (∀ j, j < 30 → iB S s k (s + 3 + 3 * b) j = -9) ∧ (∀ l, l < 26 → iB S s k (s + 4 + 3 * b) l = -9)
  | 0, b, h => absurd h (Nat.not_lt_zero b)
  | k + 1, b, h => by
    by_cases e : b = k
    · subst e
      refine ⟨fun j hj => if_pos ⟨rfl, hj⟩, fun l hl => ?_⟩
      have h1 : tf_on 30 (tf_kp (fun _ => 0) l) = -9 := tf_kp_none (p := fun _ => 0) (fun k _ => by omega)
      exact ((if_neg (show ¬ (s + 4 + 3 * b = s + 3 + 3 * b ∧ l < 30) by omega)).trans (if_pos ⟨rfl, hl⟩)).trans h1
    · obtain ⟨h1, h2⟩ := iB_at (S := S) (s := s) (k := k) (b := b) (by omega)
      refine ⟨fun j hj => ?_, fun l hl => ?_⟩
      · show tf_bp (iB S s k) (s + 3 + 3 * k) (s + 4 + 3 * k) _ (s + 3 + 3 * b) j = _
        rw [tf_bp_n (by omega) (by omega)]; exact h1 j hj
      · show tf_bp (iB S s k) (s + 3 + 3 * k) (s + 4 + 3 * k) _ (s + 4 + 3 * b) l = _
        rw [tf_bp_n (by omega) (by omega)]; exact h2 l hl
theorem iH_at {S : tf_Sg} {s : Nat} : ∀ {k b : Nat}, b < k → ∀ l, l < 6 → iH S s k (s + 16 + 2 * b) l = nI (tf_l0 l)
  | 0, b, h => absurd h (Nat.not_lt_zero b)
  | k + 1, b, h => by
    intro l hl
    by_cases e : b = k
    · subst e
      refine (if_pos rfl).trans ?_
      rw [show tf_ct tf_l0 6 l = tf_l0 l from if_pos hl]
    · show tf_rw (iH S s k) (s + 16 + 2 * k) _ (s + 16 + 2 * b) l = _
      rw [tf_rw_n (by omega)]
      exact iH_at (by omega) l hl
theorem st_0 {S : tf_Sg} {s : Nat} (hz : ∀ a, s ≤ a → a < s + 52 → ∀ k, S a k = 0) : tf_st (iS S s) s (tf_i0 4) := by
  have z : ∀ a, s + 24 ≤ a → a < s + 52 → ∀ k, iS S s a k = 0 := fun a h1 h2 k => by rw [iS_fr (by omega)]; exact hz a (by omega) h2 k
  have z2 : ∀ k, iS S s (s + 23) k = 0 := fun k => by
    unfold iS
    rw [iH_fr (by omega), iB_fr (by omega)]
    exact hz _ (by omega) (by omega) k
  have k0 : ∀ b, b < 4 → ∀ l, tf_on 30 (tf_ke (tf_i0 4) b l) = -9 := fun b hb l => by
    rw [tf_ke_kp (p := fun _ => 0) (fun k hk => tf_i0_n (by omega)) l]
    exact tf_kp_none (p := fun _ => 0) (fun k _ => by omega)
  refine ⟨fun b hb => ?_, fun h hh l hl => ?_, ⟨?_, fun j hj => ?_⟩, ⟨?_, fun j hj => ?_⟩, ⟨?_, fun w hw => ?_, fun w hw => ⟨0, Nat.zero_le _, ?_⟩⟩, ⟨?_, fun j hj => ?_⟩⟩
  · obtain ⟨h1, h2⟩ := iB_at (S := S) (s := s) hb
    refine ⟨fun k hk => ?_, fun l hl => ?_⟩
    · unfold iS
      rw [iH_fr (by omega), h1 k hk, tf_i0_n (by omega)]
      rfl
    · unfold iS
      rw [iH_fr (by omega), h2 l hl, k0 b hb]
  · unfold iS
    rw [iH_at hh l hl, tf_i0_y hh hl]
  · rw [z2, tf_i0_n (by omega)]; rfl
  · rw [tf_i0_n (by omega)] at hj; exact absurd hj (Nat.not_lt_zero _)
  · rw [z _ (by omega) (by omega), tf_i0_n (by omega)]; rfl
  · rw [tf_i0_n (by omega)] at hj; exact absurd hj (Nat.not_lt_zero _)
  · rw [z _ (by omega) (by omega), tf_i0_n (by omega)]; rfl
  · rw [tf_i0_n (by omega)] at hw; exact absurd hw (Nat.not_lt_zero _)
  · rw [z _ (by omega) (by omega)]; rfl
  · rw [z _ (by omega) (by omega), tf_i0_n (by omega)]; rfl
  · rw [tf_i0_n (by omega)] at hj; exact absurd hj (Nat.not_lt_zero _)
/-- the numbers behind the constructors -/
def tf_S1 (S : tf_Sg) : tf_Sg := tf_rw (iS (iS S 5) 57) 127 (tf_i0 4)
theorem S1_fr {S : tf_Sg} {a : Nat} (h1 : a < 8 ∨ 81 ≤ a) (h2 : a ≠ 127) : tf_S1 S a = S a := by
  unfold tf_S1
  rw [tf_rw_n h2, iS_fr (by omega), iS_fr (by omega)]
theorem cs_0 {S : tf_Sg} (hz : ∀ a, 4 ≤ a → ∀ k, S a k = 0) (h1 : ∀ j, j < 10 → S 1 j = nI (tf_fi j 0)) : tf_cs (tf_S1 S) tf_A0 := by
  refine ⟨by rw [S1_fr (by omega) (by omega)]; exact h1, ?_, fun h => absurd h (by decide), ⟨by rw [S1_fr (by omega) (by omega), hz 109 (by omega)]; rfl, fun j => by rw [S1_fr (by omega) (by omega), hz 110 (by omega)]; rfl⟩, fun j => by rw [S1_fr (by omega) (by omega), hz 124 (by omega)]; rfl, by rw [S1_fr (by omega) (by omega), hz 4 (by omega)]; rfl⟩
  refine tf_st_c (st_0 (S := S) (s := 5) (fun a ha _ k => hz a (by omega) k)) gd_0 (fun a ha hb => ?_)
  unfold tf_S1
  rw [tf_rw_n (by omega), iS_fr (by omega)]
theorem ms_0 {N : Nat} {S : tf_Sg} (hz : ∀ a, 4 ≤ a → ∀ k, S a k = 0) : tf_ms (tf_GG N) (tf_S1 S) 125 tf_A0 := by
  refine ⟨fun k => ?_, fun k => ?_, ?_, fun k => ?_, fun k => ?_, ?_⟩
  · show tf_rw (iS (iS S 5) 57) 127 (tf_i0 4) 127 k = nI (tf_i0 4 k)
    exact tf_rw_a k
  · show tf_S1 S 129 k = _
    rw [S1_fr (by omega) (by omega), hz 129 (by omega)]; rfl
  · rw [S1_fr (by omega) (by omega), hz 125 (by omega)]; rfl
  · show tf_S1 S 126 k = _
    rw [S1_fr (by omega) (by omega), hz 126 (by omega)]; rfl
  · show tf_S1 S 128 k = _
    rw [S1_fr (by omega) (by omega), hz 128 (by omega)]; rfl
  · rw [S1_fr (by omega) (by omega), hz 125 (by omega)]; rfl
theorem tf_wid {x : tf_X} {kc ks kc' ks' : Nat} {G : tf_G} {S : tf_Sg} {pc : Nat} {ls : List (Option Value)} {st : List Value} (h1 : kc ≤ kc') (h2 : ks ≤ ks') (kk : tf_K x kc' ks' G S pc ls st) : tf_K x kc ks G S pc ls st := by
  obtain ⟨p, l, e, R, s, m, args, below, meth, c0, A, Q, D, ad0, G0, S0⟩ := x
  intro ad H locs lsC hI hl
  exact W.widen h1 h2 (kk ad H locs lsC hI hl)
