/-! BYTES AND FAULTS -/
theorem nI_tb (n : Nat) : (nI n).toBitVec = BitVec.ofNat 32 n := rfl
theorem tf_or {a b : Nat} : nI a ||| nI b = nI (a ||| b) := by
  apply Int32.toBitVec_inj.mp
  rw [Int32.toBitVec_or, nI_tb, nI_tb, nI_tb]
  apply BitVec.eq_of_toNat_eq
  rw [BitVec.toNat_or, BitVec.toNat_ofNat, BitVec.toNat_ofNat, BitVec.toNat_ofNat, Nat.or_mod_two_pow]
theorem tf_an {a b : Nat} : nI a &&& nI b = nI (a &&& b) := by
  apply Int32.toBitVec_inj.mp
  rw [Int32.toBitVec_and, nI_tb, nI_tb, nI_tb]
  apply BitVec.eq_of_toNat_eq
  rw [BitVec.toNat_and, BitVec.toNat_ofNat, BitVec.toNat_ofNat, BitVec.toNat_ofNat, Nat.and_mod_two_pow]
theorem tf_smod : ∀ l, l < 32 → ((nI l &&& 31).toBitVec.smod 32).toNat = l := by decide +kernel
theorem tf_shl {l : Nat} (h : l < 26) : (1 : Int32) <<< (nI l &&& 31) = nI (2 ^ l) := by
  have h2 : 1 * 2 ^ l < 2 ^ 32 := by rw [Nat.one_mul]; exact Nat.pow_lt_pow_right (by decide) (by omega)
  have := pk_shlN (n := 1) (nI l &&& 31) l (tf_smod l (by omega)) h2
  rw [Nat.one_mul] at this
  exact this
theorem tf_tst {s l : Nat} (hs : s < 2 ^ 26) (h : l < 26) : (nI s >>> (nI l &&& 31)) &&& 1 = nI (if s.testBit l = true then 1 else 0) := by
  rw [pk_shrN (show s < 2 ^ 31 by omega) (nI l &&& 31) l (tf_smod l (by omega)), show (1 : Int32) = nI 1 from rfl, tf_an, Nat.and_one_is_mod]
  congr 1
  rw [Nat.testBit_eq_decide_div_mod_eq]
  by_cases hq : s / 2 ^ l % 2 = 1
  · rw [if_pos (by simpa using hq), hq]
  · rw [if_neg (by simpa using hq)]; omega
theorem tf_tst2 {s l : Nat} : nI s &&& nI (2 ^ l) = nI (if s.testBit l = true then 2 ^ l else 0) := by
  rw [tf_an]
  congr 1
  apply Nat.eq_of_testBit_eq
  intro i
  rw [Nat.testBit_and, Nat.testBit_two_pow]
  by_cases hi : l = i
  · subst hi
    cases hb : s.testBit l
    · simp
    · simp
  · cases hb : s.testBit l
    · simp [hi]
    · simp [hi, Nat.testBit_two_pow]
/-- the byte of a place of eight -/
def tf_by (x : Int64) (k : Nat) : Nat := (x.toBitVec >>> (8 * k)).toNat % 256
theorem tf_by_le (x : Int64) (k : Nat) : tf_by x k < 256 := Nat.mod_lt _ (by decide)
theorem tf_by_bv (x : BitVec 64) {s : Nat} (hs : s ≤ 56) : ((x.sshiftRight s) &&& 255#64).signExtend 32 = BitVec.ofNat 32 ((x >>> s).toNat % 256) := by
  apply BitVec.eq_of_getLsbD_eq
  intro i hi
  rw [BitVec.getLsbD_signExtend, BitVec.getLsbD_ofNat, show (256 : Nat) = 2 ^ 8 from rfl, Nat.testBit_mod_two_pow, BitVec.getLsbD_and, BitVec.getLsbD_sshiftRight]
  have h255 : ∀ j, (255#64).getLsbD j = decide (j < 8) := by
    intro j
    by_cases hj : j < 64
    · revert hj
      revert j
      decide +kernel
    · rw [BitVec.getLsbD_of_ge _ _ (by omega)]
      simp; omega
  rw [h255]
  have ht : (x >>> s).toNat.testBit i = x.getLsbD (s + i) := by rw [← BitVec.getLsbD]; exact BitVec.getLsbD_ushiftRight _ _ _
  rw [ht]
  by_cases h8 : i < 8
  · simp [hi, h8, show i < 64 by omega, show s + i < 64 by omega]
  · simp [h8, show i < 64 by omega]
theorem tf_by_bu (x : BitVec 64) {s : Nat} (hs : s ≤ 56) : ((x >>> s).signExtend 32) &&& 255#32 = BitVec.ofNat 32 ((x >>> s).toNat % 256) := by
  apply BitVec.eq_of_getLsbD_eq
  intro i hi
  have h255 : ∀ j, (255#32).getLsbD j = decide (j < 8) := by
    intro j
    by_cases hj : j < 32
    · revert hj
      revert j
      decide +kernel
    · rw [BitVec.getLsbD_of_ge _ _ (by omega)]
      simp; omega
  rw [BitVec.getLsbD_and, BitVec.getLsbD_signExtend, h255, BitVec.getLsbD_ofNat, show (256 : Nat) = 2 ^ 8 from rfl, Nat.testBit_mod_two_pow]
  have ht : (x >>> s).toNat.testBit i = (x >>> s).getLsbD i := rfl
  rw [ht]
  by_cases h8 : i < 8
  · simp [hi, h8, show i < 64 by omega]
  · simp [h8]
theorem tf_sh64 : ∀ k, k < 8 → ((((8 : Int32) * nI k).toInt64 &&& 63).toBitVec.smod 64).toNat = 8 * k := by decide +kernel
theorem tf_by_m (x : Int64) {k : Nat} (hk : k < 8) : ((x >>> (((8 : Int32) * nI k).toInt64 &&& 63)) &&& Int64.ofNat 255).toInt32 = nI (tf_by x k) := by
  apply Int32.toBitVec_inj.mp
  rw [nI_tb]
  show ((x >>> (((8 : Int32) * nI k).toInt64 &&& 63)) &&& Int64.ofNat 255).toBitVec.signExtend 32 = _
  rw [Int64.toBitVec_and, Int64.toBitVec_shiftRight, BitVec.sshiftRight', tf_sh64 k hk]
  exact tf_by_bv x.toBitVec (by omega)
theorem tf_sh64u : ∀ k, k < 8 → ((((8 : Int32) * nI k).toInt64.toUInt64 &&& Int64.toUInt64 63).toBitVec % 64#64).toNat = 8 * k := by decide +kernel
theorem tf_by_c (x : Int64) {k : Nat} (hk : k < 8) : (((x.toUInt64 >>> (((8 : Int32) * nI k).toInt64.toUInt64 &&& Int64.toUInt64 63)).toInt64).toInt32) &&& 255 = nI (tf_by x k) := by
  apply Int32.toBitVec_inj.mp
  rw [nI_tb, Int32.toBitVec_and]
  show (x.toUInt64 >>> (((8 : Int32) * nI k).toInt64.toUInt64 &&& Int64.toUInt64 63)).toBitVec.signExtend 32 &&& 255#32 = _
  have h1 : (x.toUInt64 >>> (((8 : Int32) * nI k).toInt64.toUInt64 &&& Int64.toUInt64 63)).toBitVec = x.toBitVec >>> (8 * k) := by
    rw [UInt64.toBitVec_shiftRight]
    show x.toBitVec >>> ((((8 : Int32) * nI k).toInt64.toUInt64 &&& Int64.toUInt64 63).toBitVec % 64#64) = _
    rw [BitVec.ushiftRight_eq', tf_sh64u k hk]
  rw [h1]
  exact tf_by_bu x.toBitVec (by omega)
def tf_lt (c : Nat) : Bool := decide (97 ≤ c) && decide (c ≤ 122)
theorem tf_lt_y {c : Nat} (h : tf_lt c = true) : 97 ≤ c ∧ c ≤ 122 := by unfold tf_lt at h; simpa using h
theorem tf_lt_i {c : Nat} (hc : c < 256) : (if ¬ nI c < 97 ∧ ¬ 122 < nI c then (1 : Int32) else 0) = if tf_lt c = true then 1 else 0 := by
  have h1 : (nI c < 97) ↔ c < 97 := nI_ltI (b := 97) (by omega) (by decide)
  have h2 : (122 < nI c) ↔ 122 < c := nI_ltI (a := 122) (by decide) (by omega)
  unfold tf_lt
  by_cases a : c < 97
  · rw [if_neg (by rintro ⟨q, -⟩; exact q (h1.mpr a)), if_neg (by simp; omega)]
  · by_cases b : 122 < c
    · rw [if_neg (by rintro ⟨-, q⟩; exact q (h2.mpr b)), if_neg (by simp; omega)]
    · rw [if_pos ⟨fun q => a (h1.mp q), fun q => b (h2.mp q)⟩, if_pos (by simp; omega)]
/-- FAULTS of a text -/
def tf_lb (T : Nat → Nat) (bk k : Nat) : Bool := !(tf_lt (T k)) && !(decide (bk ≠ 0) && decide (T k = 60))
def tf_lf (T : Nat → Nat) (n bk : Nat) : Nat := tf_fst (tf_lb T bk) n 0
/-- the letters that came, as bits -/
def tf_bs (T : Nat → Nat) : Nat → Nat
  | 0 => 0
  | k + 1 => if k % 11 ≠ 10 ∧ tf_lt (T k) = true then tf_bs T k ||| 2 ^ (T k - 97) else tf_bs T k
theorem tf_bs_s {T : Nat → Nat} {k : Nat} : tf_bs T (k + 1) = if k % 11 ≠ 10 ∧ tf_lt (T k) = true then tf_bs T k ||| 2 ^ (T k - 97) else tf_bs T k := rfl
theorem tf_bs_le (T : Nat → Nat) : ∀ k, tf_bs T k < 2 ^ 26
  | 0 => by show 0 < 2 ^ 26; decide
  | k + 1 => by
    rw [tf_bs_s]
    split
    · next h =>
      have := tf_lt_y h.2
      exact Nat.or_lt_two_pow (tf_bs_le T k) (Nat.pow_lt_pow_right (by decide) (by omega))
    · exact tf_bs_le T k
def tf_bb (T : Nat → Nat) (n k : Nat) : Bool := decide (n ≤ k) || (if k % 11 = 10 then !decide (T k = 47) else (!decide (T k = 46) && !tf_lt (T k)) || (tf_lt (T k) && (tf_bs T k).testBit (T k - 97)))
def tf_bf (T : Nat → Nat) (n : Nat) : Nat := if tf_fst (tf_bb T n) 32 0 < 32 then tf_fst (tf_bb T n) 32 0 else if 32 < n then 32 else 49
