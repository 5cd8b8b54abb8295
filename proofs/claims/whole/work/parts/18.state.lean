/-! THE STATE as both sides have it: the row f, THE TAPE T of tn bytes, the refusals R, the image g, whether there is one -/
abbrev tf_A : Type := (Nat → Nat) × (Nat → Nat) × Nat × (Nat → Int32) × (Nat → Nat) × Nat
def tA_ref (A : tf_A) (k : Nat) : tf_A := (A.1, A.2.1, A.2.2.1, (fun j => if j = k then A.2.2.2.1 j + 1 else A.2.2.2.1 j), A.2.2.2.2)
def tA_f (A : tf_A) (f : Nat → Nat) : tf_A := (f, A.2)
def tA_t (A : tf_A) (T : Nat → Nat) (n : Nat) : tf_A := (A.1, T, n, A.2.2.2)
/-- always so -/
def tf_okA (A : tf_A) : Prop := tf_gd A.1 ∧ (∀ k, A.1 k < 10000) ∧ A.2.2.1 ≤ 48 ∧ (∀ k, A.2.1 k < 256) ∧ (∀ k, A.2.2.2.2.1 k < 10000) ∧ (A.2.2.2.2.2 = 0 ∨ (A.2.2.2.2.2 = 1 ∧ tf_gd A.2.2.2.2.1))
/-- the reference's rows are apart -/
def tf_md (G : tf_G) (o : Nat) : Prop := tf_rf G o 0 ≠ tf_rf G o 1 ∧ tf_rf G o 0 ≠ tf_rf G o 2 ∧ tf_rf G o 0 ≠ tf_rf G o 4 ∧ tf_rf G o 1 ≠ tf_rf G o 2 ∧ tf_rf G o 1 ≠ tf_rf G o 4 ∧ tf_rf G o 2 ≠ tf_rf G o 4
/-- the reference holds the state -/
def tf_ms (G : tf_G) (S : tf_Sg) (o : Nat) (A : tf_A) : Prop := (∀ k, S (tf_rf G o 1) k = nI (A.1 k)) ∧ (∀ k, S (tf_rf G o 4) k = nI (A.2.1 k)) ∧ S o 5 = nI A.2.2.1 ∧ (∀ k, S (tf_rf G o 0) k = A.2.2.2.1 k) ∧ (∀ k, S (tf_rf G o 2) k = nI (A.2.2.2.2.1 k)) ∧ S o 3 = nI A.2.2.2.2.2
/-- nothing else is changed -/
def tf_fm (G : tf_G) (o : Nat) (S S' : tf_Sg) : Prop := ∀ a, a ≠ o → a ≠ tf_rf G o 0 → a ≠ tf_rf G o 1 → a ≠ tf_rf G o 2 → a ≠ tf_rf G o 4 → S' a = S a
def tf_pm (M : tf_M) (d : Nat) (G : tf_G) (S : tf_Sg) (o : Nat) (av : List Value) (q : Int32 × tf_A) : Prop := ∃ S', tf_Fn M d 0 0 G S av G S' (some (.int q.1)) ∧ tf_ms G S' o q.2 ∧ tf_fm G o S S'
def tf_rfS (G : tf_G) (S : tf_Sg) (o k : Nat) : tf_Sg := tf_set S (tf_rf G o 0) k (S (tf_rf G o 0) k + 1)
theorem tf_mo_ne {G : tf_G} {o : Nat} (h : tf_mo G o) : tf_rf G o 0 ≠ o ∧ tf_rf G o 1 ≠ o ∧ tf_rf G o 2 ≠ o ∧ tf_rf G o 4 ≠ o := by
  obtain ⟨h1, ⟨-, t0, -⟩, ⟨-, t1, -⟩, ⟨-, t2, -⟩, ⟨-, t4, -⟩⟩ := h
  refine ⟨fun e => ?_, fun e => ?_, fun e => ?_, fun e => ?_⟩
  · rw [e] at t0; omega
  · rw [e] at t1; omega
  · rw [e] at t2; omega
  · rw [e] at t4; omega
theorem tf_fm_id {G : tf_G} {o : Nat} {S : tf_Sg} : tf_fm G o S S := fun _ _ _ _ _ _ => rfl
theorem tf_fm_tr {G : tf_G} {o : Nat} {S S1 S2 : tf_Sg} (h1 : tf_fm G o S S1) (h2 : tf_fm G o S1 S2) : tf_fm G o S S2 := fun a p q r s t => (h2 a p q r s t).trans (h1 a p q r s t)
theorem tf_fm_o {G : tf_G} {o k : Nat} {S : tf_Sg} {v : Int32} : tf_fm G o S (tf_set S o k v) := fun a p _ _ _ _ => tf_set_n p
theorem tf_fm_0 {G : tf_G} {o k : Nat} {S : tf_Sg} {v : Int32} : tf_fm G o S (tf_set S (tf_rf G o 0) k v) := fun a _ p _ _ _ => tf_set_n p
theorem tf_fm_1 {G : tf_G} {o : Nat} {S : tf_Sg} {F : Nat → Nat} : tf_fm G o S (tf_rw S (tf_rf G o 1) F) := fun a _ _ p _ _ => tf_rw_n p
theorem tf_fm_2 {G : tf_G} {o : Nat} {S : tf_Sg} {F : Nat → Nat} : tf_fm G o S (tf_rw S (tf_rf G o 2) F) := fun a _ _ _ p _ => tf_rw_n p
theorem tf_fm_4 {G : tf_G} {o : Nat} {S : tf_Sg} {F : Nat → Nat} : tf_fm G o S (tf_rw S (tf_rf G o 4) F) := fun a _ _ _ _ p => tf_rw_n p
theorem tf_ms_ref {G : tf_G} {S : tf_Sg} {o : Nat} {A : tf_A} (ho : tf_mo G o) (hd : tf_md G o) (h : tf_ms G S o A) (k : Nat) : tf_ms G (tf_rfS G S o k) o (tA_ref A k) := by
  obtain ⟨a1, a2, a3, a4, a5, a6⟩ := h
  obtain ⟨n0, n1, n2, n4⟩ := tf_mo_ne ho
  obtain ⟨d1, d2, d3, d4, d5, d6⟩ := hd
  unfold tf_rfS
  refine ⟨fun j => ?_, fun j => ?_, ?_, fun j => ?_, fun j => ?_, ?_⟩
  · rw [tf_set_n (Ne.symm d1)]; exact a1 j
  · rw [tf_set_n (Ne.symm d3)]; exact a2 j
  · rw [tf_set_n (Ne.symm n0)]; exact a3
  · show _ = if j = k then _ else _
    by_cases hj : j = k
    · subst hj; rw [if_pos rfl, tf_set_s, a4]
    · rw [if_neg hj, tf_set_k hj, a4]
  · rw [tf_set_n (Ne.symm d2)]; exact a5 j
  · rw [tf_set_n (Ne.symm n0)]; exact a6
theorem tf_ms_rw {G : tf_G} {S : tf_Sg} {o : Nat} {A : tf_A} (ho : tf_mo G o) (hd : tf_md G o) (h : tf_ms G S o A) (F : Nat → Nat) : tf_ms G (tf_rw S (tf_rf G o 1) F) o (tA_f A F) := by
  obtain ⟨a1, a2, a3, a4, a5, a6⟩ := h
  obtain ⟨n0, n1, n2, n4⟩ := tf_mo_ne ho
  obtain ⟨d1, d2, d3, d4, d5, d6⟩ := hd
  refine ⟨fun j => ?_, fun j => ?_, ?_, fun j => ?_, fun j => ?_, ?_⟩
  · exact tf_rw_a j
  · rw [tf_rw_n (Ne.symm d5)]; exact a2 j
  · rw [tf_rw_n (Ne.symm n1)]; exact a3
  · rw [tf_rw_n d1]; exact a4 j
  · rw [tf_rw_n (Ne.symm d4)]; exact a5 j
  · rw [tf_rw_n (Ne.symm n1)]; exact a6
theorem tf_ms_tn {G : tf_G} {S : tf_Sg} {o : Nat} {A : tf_A} (ho : tf_mo G o) (h : tf_ms G S o A) (n : Nat) : tf_ms G (tf_set S o 5 (nI n)) o (tA_t A A.2.1 n) := by
  obtain ⟨a1, a2, a3, a4, a5, a6⟩ := h
  obtain ⟨n0, n1, n2, n4⟩ := tf_mo_ne ho
  refine ⟨fun j => ?_, fun j => ?_, ?_, fun j => ?_, fun j => ?_, ?_⟩
  · rw [tf_set_n n1]; exact a1 j
  · rw [tf_set_n n4]; exact a2 j
  · rw [tf_set_s]; rfl
  · rw [tf_set_n n0]; exact a4 j
  · rw [tf_set_n n2]; exact a5 j
  · rw [tf_set_k (by decide)]; exact a6
theorem tf_ms_t {G : tf_G} {S : tf_Sg} {o : Nat} {A : tf_A} (ho : tf_mo G o) (hd : tf_md G o) (h : tf_ms G S o A) (T : Nat → Nat) : tf_ms G (tf_rw S (tf_rf G o 4) T) o (tA_t A T A.2.2.1) := by
  obtain ⟨a1, a2, a3, a4, a5, a6⟩ := h
  obtain ⟨n0, n1, n2, n4⟩ := tf_mo_ne ho
  obtain ⟨d1, d2, d3, d4, d5, d6⟩ := hd
  refine ⟨fun j => ?_, fun j => ?_, ?_, fun j => ?_, fun j => ?_, ?_⟩
  · rw [tf_rw_n d5]; exact a1 j
  · exact tf_rw_a j
  · rw [tf_rw_n (Ne.symm n4)]; exact a3
  · rw [tf_rw_n d3]; exact a4 j
  · rw [tf_rw_n d6]; exact a5 j
  · rw [tf_rw_n (Ne.symm n4)]; exact a6
/-- a number of 0 .. n - 1 -/
def tf_ok (v n : Int32) : Prop := ¬ v < 0 ∧ ¬ n ≤ v
theorem tf_ok_nI {v n : Int32} {N : Nat} (h : tf_ok v n) (hn : n = nI N) (hN : N < 2147483648) : ∃ j, j < N ∧ v = nI j ∧ v.toNatClampNeg = j := by
  subst hn
  obtain ⟨j, hj, rfl⟩ := nI_of h.1
  exact ⟨j, Nat.not_le.mp fun q => h.2 (nI_le q hj), rfl, tf_cl_nI hj⟩
theorem tf_ok_dec (v n : Int32) : tf_ok v n ∨ ¬ tf_ok v n := Classical.em _
/-! what the calls answer, and the state behind them -/
abbrev tf_Q : Type := Int32 × tf_A
def s_keyOf (A : tf_A) (b l : Int32) : tf_Q := if (¬ b < 0 ∧ ¬ 4 ≤ b) ∧ (¬ l < 0 ∧ ¬ 26 ≤ l) then (tf_on 30 (tf_ke A.1 b.toNatClampNeg l.toNatClampNeg), A) else (-1, tA_ref A 1)
def s_letterOn (A : tf_A) (b k : Int32) : tf_Q := if (¬ b < 0 ∧ ¬ 4 ≤ b) ∧ (¬ k < 0 ∧ ¬ 30 ≤ k) then ((if A.1 (30 * b.toNatClampNeg + k.toNatClampNeg) = 0 then -9 else nI (A.1 (30 * b.toNatClampNeg + k.toNatClampNeg) - 1)), A) else (-1, tA_ref A 1)
def s_fingerOf (A : tf_A) (k : Int32) (t : Nat) : tf_Q := if (¬ k < 0 ∧ ¬ 30 ≤ k) then (nI (tf_fi k.toNatClampNeg t), A) else (-1, tA_ref A 1)
def s_law (A : tf_A) (h l v : Int32) : tf_Q := if (¬ h < 0 ∧ ¬ 4 ≤ h) ∧ (¬ l < 0 ∧ ¬ 6 ≤ l) then (if ¬ 0 ≤ v then (-4, tA_ref A 4) else if ¬ v ≤ 999 then (-6, tA_ref A 6) else (nI (A.1 (120 + 6 * h.toNatClampNeg + l.toNatClampNeg)), tA_f A (tf_u A.1 (120 + 6 * h.toNatClampNeg + l.toNatClampNeg) v.toNatClampNeg))) else (-1, tA_ref A 1)
def s_gap (A : tf_A) (h b p q : Int32) : tf_Q := if (¬ h < 0 ∧ ¬ 4 ≤ h) ∧ (¬ b < 0 ∧ ¬ 4 ≤ b) ∧ (¬ p < 0 ∧ ¬ 30 ≤ p) ∧ (¬ q < 0 ∧ ¬ 30 ≤ q) then (nI (tf_ga A.1 h.toNatClampNeg p.toNatClampNeg q.toNatClampNeg 0), A) else (-1, tA_ref A 1)
def s_sign (A : tf_A) (t : Nat) (i : Int32) : tf_Q := if ¬ i < 0 ∧ ¬ nI (A.1 (if t ≠ 0 then 364 else 365)) ≤ i then (nI (A.1 ((if t ≠ 0 then 144 else 184) + i.toNatClampNeg)), A) else (-9, A)
def s_practise (A : tf_A) (w n : Int32) : tf_Q := if ¬ w < 0 ∧ ¬ nI (A.1 366) ≤ w then (if ¬ 1 ≤ n then (-4, tA_ref A 4) else if ¬ n ≤ 999 then (-6, tA_ref A 6) else (nI (if A.1 (224 + 10 * w.toNatClampNeg + 1) + n.toNatClampNeg ≤ 9999 then A.1 (224 + 10 * w.toNatClampNeg + 1) + n.toNatClampNeg else 9999), tA_f A (tf_u A.1 (224 + 10 * w.toNatClampNeg + 1) (if A.1 (224 + 10 * w.toNatClampNeg + 1) + n.toNatClampNeg ≤ 9999 then A.1 (224 + 10 * w.toNatClampNeg + 1) + n.toNatClampNeg else 9999)))) else (-1, tA_ref A 1)
def s_piece (A : tf_A) (i w : Int32) : tf_Q := if ¬ w < 0 ∧ ¬ 3 ≤ w then (tf_pv A.1 i w, A) else (-2, tA_ref A 2)
def s_pieces (A : tf_A) : tf_Q := (nI (tf_np A.1 40 0), A)
def s_time (A : tf_A) (h b : Int32) (t : Nat) : tf_Q := if (¬ h < 0 ∧ ¬ 4 ≤ h) ∧ (¬ b < 0 ∧ ¬ 4 ≤ b) then (nI (tf_tm A.1 h.toNatClampNeg b.toNatClampNeg t), A) else (-1, tA_ref A 1)
def s_where (A : tf_A) (b k : Int32) : tf_Q := if ¬ b < 0 ∧ ¬ 4 ≤ b then (if ¬ k < 0 ∧ ¬ 8 ≤ k then (tf_on 41 (tf_wo A.1 b.toNatClampNeg k.toNatClampNeg), A) else (-2, tA_ref A 2)) else (-1, tA_ref A 1)
def s_exchange (A : tf_A) (b x y : Int32) : tf_Q := if (¬ b < 0 ∧ ¬ 4 ≤ b) ∧ (¬ x < 0 ∧ ¬ 30 ≤ x) ∧ (¬ y < 0 ∧ ¬ 30 ≤ y) ∧ x ≠ y then (1, tA_f A (tf_ex A.1 b.toNatClampNeg x.toNatClampNeg y.toNatClampNeg)) else (-1, tA_ref A 1)
def s_better (A : tf_A) (h b : Int32) : tf_Q := if (¬ h < 0 ∧ ¬ 4 ≤ h) ∧ (¬ b < 0 ∧ ¬ 4 ≤ b) then (tf_on 3000 (tf_be A.1 h.toNatClampNeg b.toNatClampNeg), A) else (-1, tA_ref A 1)
def s_far (A : tf_A) (h b : Int32) : tf_Q := if (¬ h < 0 ∧ ¬ 4 ≤ h) ∧ (¬ b < 0 ∧ ¬ 4 ≤ b) then (nI (tf_fa A.1 h.toNatClampNeg b.toNatClampNeg), A) else (-1, tA_ref A 1)
def s_pace (A : tf_A) (h b p d : Int32) : tf_Q := if (¬ h < 0 ∧ ¬ 4 ≤ h) ∧ (¬ b < 0 ∧ ¬ 4 ≤ b) then (if p < 1 ∨ d < 0 then (-4, tA_ref A 4) else if 9 < p ∨ 9999 < d then (-6, tA_ref A 6) else (nI (tf_pc A.1 h.toNatClampNeg b.toNatClampNeg p.toNatClampNeg d.toNatClampNeg), A)) else (-1, tA_ref A 1)
def s_put (A : tf_A) (v : Int32) : tf_Q := if ¬ 0 ≤ v then (-4, tA_ref A 4) else if ¬ v ≤ 9999 ∨ A.1 367 = 40 then (-6, tA_ref A 6) else (nI (A.1 367 + 1), tA_f A (tf_u (tf_u A.1 (324 + A.1 367) v.toNatClampNeg) 367 (A.1 367 + 1)))
def s_unput (A : tf_A) : tf_Q := (nI (A.1 367), tA_f A (tf_u A.1 367 0))
def s_count (A : tf_A) (w : Int32) : tf_Q := ((if 10 < w ∧ w < 17 then A.2.2.2.1 (w - 10).toNatClampNeg else if w = 0 then nI (A.1 364) else if w = 1 then nI (A.1 365) else if w = 2 then nI (A.1 366) else if w = 3 then nI (A.1 367) else if w = 4 then nI A.2.2.1 else -9), A)
