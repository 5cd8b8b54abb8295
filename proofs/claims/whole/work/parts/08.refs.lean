theorem tf_kputr {x : tf_X} {cc : ByteArray} {own : String} {nL d mc ms : Nat} (hx : tf_C x cc own nL d mc ms true) {F : tf_F} {T : tf_T} (hFT : 1 ≤ d ∧ tf_okF own F ∧ tf_okT cc T) {G : tf_G} {S : tf_Sg} {kc ks nx tg pc idx o w ci k : Nat} {v : Int32} {ls : List (Option Value)} {st : List Value}
    (hat : tf_at pc T = some (.putfield idx, nx, tg, v)) (hfl : tf_fl idx F = some (ci, k)) (hc : ci < 9 ∧ tf_isr ci k = true ∧ own = (tf_cl ci).1) (htg : tf_tg G o = ci) (hl2 : k < (tf_e G o).2.2.length) (hw : w ≠ 0 ∧ w < G.length)
    (kk : tf_K x kc ks (tf_sr G o k w) S nx ls st) : tf_K x kc ks G S pc ls (.ref w :: .ref o :: st) := by
  obtain ⟨p, l, e, R, s, m, args, below, meth, c0, A, Q, D, ad0, G0, S0⟩ := x
  obtain ⟨hxx, hb, hml, hown, hts, hfr, hlo, hmc, hms, hA, hini⟩ := hx
  intro ad H locs lsC hI hl
  obtain ⟨hdg, rfl⟩ := tf_dc (tf_dec hFT.2.2 hat) 2 rfl
  obtain ⟨hag, hP, hK, hD, hS, hRo, hro⟩ := hI
  obtain ⟨hc9, hr, ho⟩ := hc
  obtain ⟨f1, f2, f3⟩ := tf_okF_f hFT.2.1 hfl hc9
  obtain ⟨g1, g2⟩ := tf_4 hro (show tf_tg G o < 14 by omega)
  have hat2 := tf_ws_at (D := D) (ad := ad) (G := G) (S := S) g1 g2
  have htg2 : (tf_e G o).1 = ci := htg
  rw [tf_cell_o (show tf_tg G o < 9 by omega), htg2] at hat2
  obtain ⟨z1, z2⟩ := tf_fin ci hc9 k f2 hr
  have hrt : (tf_ty ci k).isReference = true := by rw [← tf_isr_ok ci hc9 k f2]; exact hr
  obtain ⟨y1, y2⟩ := tf_refty hrt (ad w)
  refine va_putF (D := D.1) (ci := ci) (v := .ref (ad w)) (ty := tf_ty ci k) hxx hb hts (tf_hin ci hc9) (tf_ty ci) (tf_hty ci hc9) (tf_hnm ci hc9) hown hK hP hD hS (o - 4) hat2 (tf_hcl ci hc9) k f2 (hts _ f1) (fun u hu => by rw [f3] at hu; exact hu) z1 (hini rfl) (by rw [z2, ho]) (tf_hty ci hc9 k f2) y1 y2 (by unfold tf_fs; rw [List.length_map, List.length_range, htg2]; exact f2) hdg (fun H1 locs1 hP1 hD1 hS1 => ?_)
  have hset : (tf_ws D ad G S).set (o - 4) (ad o, .inr (ci, (tf_fs ad S o (tf_e G o)).set k (.ref (ad w)))) = tf_ws D ad (tf_sr G o k w) S := by
    rw [tf_fs_sr (by rw [htg2]; exact f2) (by rw [htg2]; exact hr) hl2 hw.1]
    have hcell := tf_cell_o (D := D) (ad := ad) (S := S) (o := o) (e := ((tf_e G o).1, (tf_e G o).2.1, (tf_e G o).2.2.set k w)) (show tf_tg G o < 9 by omega)
    rw [show ((tf_e G o).1, (tf_e G o).2.1, (tf_e G o).2.2.set k w).1 = ci from htg2] at hcell
    unfold tf_sr
    rw [htg2, ← hcell]
    exact tf_ws_sr g1 g2
  rw [hset] at hP1 hD1
  exact kk ad H1 locs1 lsC ⟨tf_hag_sr hag, hP1, hK, hD1, hS1, hRo, tf_ro_sr hro g2 hw.2⟩ hl
/-- which class's objects a row of references holds -/
def tf_ac : Nat → Nat
  | 11 => 0
  | 12 => 1
  | _ => 3
theorem tf_kaast {x : tf_X} {cc : ByteArray} {own : String} {nL d mc ms : Nat} {ini : Bool} (hx : tf_C x cc own nL d mc ms ini) {F : tf_F} {T : tf_T} (hFT : 1 ≤ d ∧ tf_okF own F ∧ tf_okT cc T) {G : tf_G} {S : tf_Sg} {kc ks nx tg pc a w : Nat} {v i : Int32} {ls : List (Option Value)} {st : List Value}
    (hat : tf_at pc T = some (.aastore, nx, tg, v)) (htg : tf_tg G a = 11 ∨ tf_tg G a = 12 ∨ tf_tg G a = 13) (htw : tf_tg G w = tf_ac (tf_tg G a)) (hin : vp_in i (tf_ln G a)) (hl2 : i.toNatClampNeg < (tf_e G a).2.2.length)
    (kk : tf_K x kc ks (tf_sr G a i.toNatClampNeg w) S nx ls st) : tf_K x kc ks G S pc ls (.ref w :: .int i :: .ref a :: st) := by
  obtain ⟨p, l, e, R, s, m, args, below, meth, c0, A, Q, D, ad0, G0, S0⟩ := x
  obtain ⟨hxx, hb, hml, hown, hts, hfr, hlo, hmc, hms, hA, hini⟩ := hx
  intro ad H locs lsC hI hl
  obtain ⟨hdg, rfl⟩ := tf_dc (tf_dec hFT.2.2 hat) 0 rfl
  obtain ⟨hag, hP, hK, hD, hS, hRo, hro⟩ := hI
  obtain ⟨g1, g2⟩ := tf_4 hro (show tf_tg G a < 14 by omega)
  have hat2 := tf_ws_at (D := D) (ad := ad) (G := G) (S := S) g1 g2
  rw [tf_cell_r (show 11 ≤ tf_tg G a by omega)] at hat2
  have hcw : tf_ac (tf_tg G a) < 9 := by rcases htg with h | h | h <;> rw [h] <;> decide
  obtain ⟨w1, w2⟩ := tf_4 hro (show tf_tg G w < 14 by omega)
  have hatw := tf_ws_at (D := D) (ad := ad) (G := G) (S := S) w1 w2
  rw [tf_cell_o (show tf_tg G w < 9 by omega), show (tf_e G w).1 = tf_ac (tf_tg G a) from htw] at hatw
  have hset : (tf_ws D ad G S).set (a - 4) (ad a, .inl (D.2 (tf_e G a).1, (tf_e G a).2.1, .inr (.inr (.inr (.inr (va_up (tf_ra ad (tf_e G a)) i.toNatClampNeg (some (ad w)))))))) = tf_ws D ad (tf_sr G a i.toNatClampNeg w) S := by
    have hcell := tf_cell_r (D := D) (ad := ad) (S := S) (o := a) (e := ((tf_e G a).1, (tf_e G a).2.1, (tf_e G a).2.2.set i.toNatClampNeg w)) (show 11 ≤ tf_tg G a by omega)
    have hra : tf_ra ad ((tf_e G a).1, (tf_e G a).2.1, (tf_e G a).2.2.set i.toNatClampNeg w) = va_up (tf_ra ad (tf_e G a)) i.toNatClampNeg (some (ad w)) := by
      funext j
      unfold tf_ra va_up
      by_cases hj : j = i.toNatClampNeg
      · subst hj
        simp only [if_true]
        rw [List.getD_eq_getElem?_getD, List.getElem?_set_self hl2]
        rw [if_neg (by simp; omega)]
        rfl
      · rw [if_neg hj]
        simp only
        rw [List.getD_eq_getElem?_getD, List.getElem?_set_ne (Ne.symm hj), ← List.getD_eq_getElem?_getD]
    rw [hra] at hcell
    rw [← hcell]
    exact tf_ws_sr g1 g2
  have fin : ∀ (H1 : Heap) (locs1 : List Loc), va_P D.1 vwCl ((tf_ws D ad G S).set (a - 4) (ad a, .inl (D.2 (tf_e G a).1, (tf_e G a).2.1, .inr (.inr (.inr (.inr (va_up (tf_ra ad (tf_e G a)) i.toNatClampNeg (some (ad w))))))))) H1 → va_D A ((tf_ws D ad G S).set (a - 4) (ad a, .inl (D.2 (tf_e G a).1, (tf_e G a).2.1, .inr (.inr (.inr (.inr (va_up (tf_ra ad (tf_e G a)) i.toNatClampNeg (some (ad w))))))))) → va_S A s.heap H1 locs1 → W p l e R s m args below meth c0 H1 locs1 kc ks Q (F0 m (pc + 1) lsC (st.map (tf_tv ad))) := by
    intro H1 locs1 hP1 hD1 hS1
    rw [hset] at hP1 hD1
    exact kk ad H1 locs1 lsC ⟨tf_hag_sr hag, hP1, hK, hD1, hS1, hRo, tf_ro_sr hro g2 w2⟩ hl
  rcases htg with h | h | h
  · have ha : (tf_e G a).1 = 11 := h
    rw [ha] at hat2 fin
    rw [h] at hatw
    exact va_astq (D := D.1) (r := (RX0, TX0, 2)) hxx hb hK hP hD hS (a - 4) 2 (w - 4) 0 hat2 rfl hatw rfl hin hdg fin
  · have ha : (tf_e G a).1 = 12 := h
    rw [ha] at hat2 fin
    rw [h] at hatw
    exact va_astq (D := D.1) (r := (RX1, TX1, 1)) hxx hb hK hP hD hS (a - 4) 3 (w - 4) 1 hat2 rfl hatw rfl hin hdg fin
  · have ha : (tf_e G a).1 = 13 := h
    rw [ha] at hat2 fin
    rw [h] at hatw
    exact va_astq (D := D.1) (r := (RX5, TX5, 2)) hxx hb hK hP hD hS (a - 4) 4 (w - 4) 3 hat2 rfl hatw rfl hin hdg fin
/-! calls that make nothing -/
theorem tf_cS {x : tf_X} {cc : ByteArray} {own : String} {nL d mc ms : Nat} {ini : Bool} (hx : tf_C x cc own nL d mc ms ini) {F : tf_F} {T : tf_T} (hFT : 1 ≤ d ∧ tf_okF own F ∧ tf_okT cc T) {G : tf_G} {S S' : tf_Sg} {kc ks d1 : Nat} {M : tf_M} {As rest st2 : List Value} {r : Option Value} {idx nx tg pc : Nat} {v : Int32} {ls : List (Option Value)} {st : List Value}
    (hF : tf_Fn M d1 0 0 G S As G S' r) (hat : tf_at pc T = some (.invokestatic idx, nx, tg, v)) (hL : tf_okS own idx As.length M) (hst : st = As.reverse ++ rest) (h2 : tf_room rest = true ∧ d1 + 1 ≤ d ∧ kc ≤ mc ∧ ks ≤ ms ∧ ls.length = nL ∧ r.toList ++ rest = st2)
    (kk : tf_K x kc ks G S' nx ls st2) : tf_K x kc ks G S pc ls st :=
  tf_kS hx hFT hF hat hL hst h2.1 ⟨h2.2.1, h2.2.2.1, h2.2.2.2.1, h2.2.2.2.2.1⟩ tf_vs_same tf_vs_same (by rw [h2.2.2.2.2.2]; exact kk)
theorem tf_cN {x : tf_X} {cc : ByteArray} {own : String} {nL d mc ms : Nat} {ini : Bool} (hx : tf_C x cc own nL d mc ms ini) {F : tf_F} {T : tf_T} (hFT : 1 ≤ d ∧ tf_okF own F ∧ tf_okT cc T) {G : tf_G} {S S' : tf_Sg} {kc ks d1 : Nat} {M : tf_M} {As rest st2 : List Value} {r : Option Value} {idx nx tg pc : Nat} {v : Int32} {ls : List (Option Value)} {st : List Value}
    (hF : tf_Fn M d1 0 0 G S As G S' r) (hat : tf_at pc T = some (.invokestatic idx, nx, tg, v)) (hL : tf_okN own idx As.length M) (hst : st = As.reverse ++ rest) (h2 : tf_room rest = true ∧ d1 + 1 ≤ d ∧ kc ≤ mc ∧ ks ≤ ms ∧ ls.length = nL ∧ r.toList ++ rest = st2)
    (kk : tf_K x kc ks G S' nx ls st2) : tf_K x kc ks G S pc ls st :=
  tf_kN hx hFT hF hat hL hst h2.1 ⟨h2.2.1, h2.2.2.1, h2.2.2.2.1, h2.2.2.2.2.1⟩ tf_vs_same tf_vs_same (by rw [h2.2.2.2.2.2]; exact kk)
theorem tf_cV {x : tf_X} {cc : ByteArray} {own : String} {nL d mc ms : Nat} {ini : Bool} (hx : tf_C x cc own nL d mc ms ini) {F : tf_F} {T : tf_T} (hFT : 1 ≤ d ∧ tf_okF own F ∧ tf_okT cc T) {G : tf_G} {S S' : tf_Sg} {kc ks d1 ci o : Nat} {M : tf_M} {As rest st2 : List Value} {r : Option Value} {idx nx tg pc : Nat} {v : Int32} {ls : List (Option Value)} {st : List Value}
    (hF : tf_Fn M d1 0 0 G S (.ref o :: As) G S' r) (hat : tf_at pc T = some (.invokevirtual idx, nx, tg, v)) (hL : tf_okV own idx As.length ci M) (htg : tf_tg G o = ci) (hst : st = As.reverse ++ .ref o :: rest) (h2 : tf_room rest = true ∧ d1 + 1 ≤ d ∧ kc ≤ mc ∧ ks ≤ ms ∧ ls.length = nL ∧ r.toList ++ rest = st2)
    (kk : tf_K x kc ks G S' nx ls st2) : tf_K x kc ks G S pc ls st :=
  tf_kV hx hFT hF hat hL htg hst h2.1 ⟨h2.2.1, h2.2.2.1, h2.2.2.2.1, h2.2.2.2.2.1⟩ tf_vs_same tf_vs_same (by rw [h2.2.2.2.2.2]; exact kk)
/-! switches -/
theorem tf_dcS {cc : ByteArray} {pc : Nat} {i : Instr} {nx tg : Nat} {v : Int32} (h : tf_ok2 cc (pc, i, nx, tg, v) = true) : decode cc pc = .ok (i, nx - pc) := by
  simp only [tf_ok2, Bool.and_eq_true, decide_eq_true_eq] at h
  exact h.1.1
theorem tf_swI {x : tf_X} {cc : ByteArray} {own : String} {nL d mc ms : Nat} {ini : Bool} (hx : tf_C x cc own nL d mc ms ini) {F : tf_F} {T : tf_T} (hFT : 1 ≤ d ∧ tf_okF own F ∧ tf_okT cc T) {G : tf_G} {S : tf_Sg} {kc ks nx tg pc : Nat} {v y : Int32} {ls : List (Option Value)} {st : List Value} {dflt lo hi off : Int} {offs : Array Int} (tgt : Nat)
    (hat : tf_at pc T = some (.tableswitch dflt lo hi offs, nx, tg, v)) (h1 : ¬ y.toInt < lo ∧ ¬ hi < y.toInt ∧ offs[(y.toInt - lo).toNat]? = some off ∧ (pc : Int) + off = (tgt : Int))
    (kk : tf_K x kc ks G S tgt ls st) : tf_K x kc ks G S pc ls (.int y :: st) := by
  obtain ⟨p, l, e, R, s, m, args, below, meth, c0, A, Q, D, ad0, G0, S0⟩ := x
  obtain ⟨hxx, hb, -⟩ := hx
  intro ad H locs lsC hI hl
  exact lv_tableIn hxx hb (tf_dcS (tf_dec hFT.2.2 hat)) h1.1 h1.2.1 h1.2.2.1 h1.2.2.2 (kk ad H locs lsC hI hl)
theorem tf_swO {x : tf_X} {cc : ByteArray} {own : String} {nL d mc ms : Nat} {ini : Bool} (hx : tf_C x cc own nL d mc ms ini) {F : tf_F} {T : tf_T} (hFT : 1 ≤ d ∧ tf_okF own F ∧ tf_okT cc T) {G : tf_G} {S : tf_Sg} {kc ks nx tg pc : Nat} {v y : Int32} {ls : List (Option Value)} {st : List Value} {dflt lo hi : Int} {offs : Array Int} (tgt : Nat)
    (hat : tf_at pc T = some (.tableswitch dflt lo hi offs, nx, tg, v)) (h1 : (y.toInt < lo ∨ hi < y.toInt) ∧ (pc : Int) + dflt = (tgt : Int))
    (kk : tf_K x kc ks G S tgt ls st) : tf_K x kc ks G S pc ls (.int y :: st) := by
  obtain ⟨p, l, e, R, s, m, args, below, meth, c0, A, Q, D, ad0, G0, S0⟩ := x
  obtain ⟨hxx, hb, -⟩ := hx
  intro ad H locs lsC hI hl
  exact lv_tableOut hxx hb (tf_dcS (tf_dec hFT.2.2 hat)) h1.1 h1.2 (kk ad H locs lsC hI hl)
