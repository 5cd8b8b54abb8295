theorem tf_K_of {x : tf_X} {kc ks : Nat} {G : tf_G} {S : tf_Sg} {pc : Nat} {ls : List (Option Value)} {st : List Value} {ad : Nat → Nat} {H : Heap} {locs : List Loc} {lsC : Array Slot} (h : tf_K x kc ks G S pc ls st) (hI : tf_In x ad G S H locs) (hl : tf_hl lsC ls.length ad ls) : tf_W x H locs kc ks pc lsC (st.map (tf_tv ad)) := h ad H locs lsC hI hl
theorem tf_okF_f {own : String} {F : tf_F} (hF : tf_okF own F) {idx ci k : Nat} (h : tf_fl idx F = some (ci, k)) (hc : ci < 9) : Cond.fieldLink own idx (tf_cl ci).1 ((tf_cl ci).2.1 k).2.1 ((tf_cl ci).2.1 k).2.2.1 ∈ tf_TB ∧ k < (tf_cl ci).2.2 ∧ ((tf_cl ci).2.1 k).1 = (tf_cl ci).1 := by
  have h1 := tf_flk hF h
  unfold tf_ok1 at h1
  have hb : Nat.blt ci 9 = true := Nat.ble_eq_true_of_le hc
  simp only [hb, cond_true, Bool.and_eq_true, decide_eq_true_eq] at h1
  exact ⟨h1.1.1, Nat.le_of_ble_eq_true h1.1.2, h1.2⟩
theorem tf_okF_g1 {own : String} {F : tf_F} (hF : tf_okF own F) {idx : Nat} (h : tf_fl idx F = some (100, 1)) : Cond.fieldLink own idx "TenFingers$Keys" "FINGER_OF_COLUMN" "[I" ∈ tf_TB := by
  have h1 := tf_flk hF h
  simpa [tf_ok1] using h1
theorem tf_okF_g2 {own : String} {F : tf_F} (hF : tf_okF own F) {idx : Nat} (h : tf_fl idx F = some (100, 2)) : Cond.fieldLink own idx "TenFingers$Hand" "FIRST_LAWS" "[I" ∈ tf_TB := by
  have h1 := tf_flk hF h
  simpa [tf_ok1] using h1
set_option maxRecDepth 100000 in
theorem tf_okF_m {own : String} {F : tf_F} (hF : tf_okF own F) {idx k : Nat} (h : tf_fl idx F = some (101, k)) : Cond.methodLink own idx (tf_mth k).1 ∈ tf_TB ∧ Cond.static (tf_mth k).1 ∈ tf_TB ∧ Cond.initialized "java/lang/Math" ∈ tf_TB ∧ Cond.code (tf_mth k).1 (tf_mth k).2.1 (tf_mth k).2.2 (some .int) ∈ tf_TB := by
  have h1 := tf_flk hF h
  unfold tf_ok1 at h1
  exact of_decide_eq_true h1
set_option maxRecDepth 100000 in
theorem tf_okF_o {own : String} {F : tf_F} (hF : tf_okF own F) {idx k : Nat} (h : tf_fl idx F = some (102, k)) : Cond.methodLink own idx objectInit ∈ tf_TB ∧ Cond.instanceMethod objectInit ∈ tf_TB ∧ Cond.code objectInit ⟨#[0xb1]⟩ 1 none ∈ tf_TB := by
  have h1 := tf_flk hF h
  unfold tf_ok1 at h1
  exact of_decide_eq_true h1
set_option maxRecDepth 100000 in
theorem tf_okF_c {own : String} {F : tf_F} (hF : tf_okF own F) {idx k : Nat} (h : tf_fl idx F = some (103, k)) : Cond.constantLong own idx (Int64.ofNat k) ∈ tf_TB := by
  have h1 := tf_flk hF h
  unfold tf_ok1 at h1
  exact of_decide_eq_true h1
theorem tf_room_ok {ad : Nat → Nat} {st : List Value} (h : tf_room st = true) : ((st.map (tf_tv ad)).map fun v => v.category).sum ≤ 8 := by
  have h1 := Nat.le_of_ble_eq_true h
  rw [List.map_map]
  have : ((fun v : Value => v.category) ∘ tf_tv ad) = (fun v : Value => v.category) := by
    funext v
    exact tf_cat ad v
  rw [this]
  exact h1
theorem tf_nar01 {x : Int32} (h : x = 0 ∨ x = 1) : narrow .boolean (.int x) = .int x := by
  rcases h with rfl | rfl <;> rfl
set_option maxHeartbeats 4000000 in
theorem tf_op_ok {x : tf_X} {cc : ByteArray} {own : String} {nL d mc ms : Nat} {ini : Bool} (hx : tf_C x cc own nL d mc ms ini) (hd : 1 ≤ d) {F : tf_F} (hF : tf_okF own F) {G : tf_G} {S S' : tf_Sg} {ls ls' : List (Option Value)} {st st' : List Value} {c : Option Prop} {i : Instr} {v : Int32} {pc nx tg : Nat}
    (hi : tf_ok2 cc (pc, i, nx, tg, v) = true) (h : tf_op G F ls S v i st = some (ls', st', S', c)) (hc : tf_and True c) {kc ks : Nat} (hkc : kc ≤ mc) (hks : ks ≤ ms) (hnL : ls.length = nL) (kk : tf_K x kc ks G S' nx ls' st') : tf_K x kc ks G S pc ls st ∧ ls'.length = nL := by
  obtain ⟨p, l, e, R, s, m, args, below, meth, c0, A, Q, D, ad0, G0, S0⟩ := x
  obtain ⟨hxx, hb, hml, hown, hts, hfr, hlo, hmc, hms, hA, hini⟩ := hx
  unfold tf_op at h
  split at h
  · -- iconst
    simp only [Option.some.injEq, Prod.mk.injEq] at h
    obtain ⟨rfl, rfl, rfl, rfl⟩ := h
    refine ⟨fun ad H locs lsC hI hl => ?_, hnL⟩
    obtain ⟨hdg, rfl⟩ := tf_dc hi 0 rfl
    simp only [tf_ok2, Bool.and_eq_true, decide_eq_true_eq] at hi
    exact lv_iconst hxx hb hdg hi.2 (kk ad H locs lsC hI hl)
  · -- bipush
    simp only [Option.some.injEq, Prod.mk.injEq] at h
    obtain ⟨rfl, rfl, rfl, rfl⟩ := h
    refine ⟨fun ad H locs lsC hI hl => ?_, hnL⟩
    obtain ⟨hdg, rfl⟩ := tf_dc hi 1 rfl
    simp only [tf_ok2, Bool.and_eq_true, decide_eq_true_eq] at hi
    exact lv_bipush hxx hb hdg hi.2 (kk ad H locs lsC hI hl)
  · -- sipush
    simp only [Option.some.injEq, Prod.mk.injEq] at h
    obtain ⟨rfl, rfl, rfl, rfl⟩ := h
    refine ⟨fun ad H locs lsC hI hl => ?_, hnL⟩
    obtain ⟨hdg, rfl⟩ := tf_dc hi 2 rfl
    simp only [tf_ok2, Bool.and_eq_true, decide_eq_true_eq] at hi
    exact lv_sipush hxx hb hdg hi.2 (kk ad H locs lsC hI hl)
  · -- iload
    split at h
    · next n st x hg =>
      simp only [Option.some.injEq, Prod.mk.injEq] at h
      obtain ⟨rfl, rfl, rfl, rfl⟩ := h
      refine ⟨fun ad H locs lsC hI hl => ?_, hnL⟩
      obtain ⟨hdg, rfl⟩ := tf_dc hi 1 rfl
      exact lv_iload hxx hb hdg (hl.2.2.2 _ _ (tf_getD hg)) (kk ad H locs lsC hI hl)
    · cases h
  · -- iload_n
    split at h
    · next n st x hg =>
      simp only [Option.some.injEq, Prod.mk.injEq] at h
      obtain ⟨rfl, rfl, rfl, rfl⟩ := h
      refine ⟨fun ad H locs lsC hI hl => ?_, hnL⟩
      obtain ⟨hdg, rfl⟩ := tf_dc hi 0 rfl
      exact lv_iload_n hxx hb hdg rfl (hl.2.2.2 _ _ (tf_getD hg)) (kk ad H locs lsC hI hl)
    · cases h
  · -- aload
    split at h
    · next n st x hg =>
      simp only [Option.some.injEq, Prod.mk.injEq] at h
      obtain ⟨rfl, rfl, rfl, rfl⟩ := h
      refine ⟨fun ad H locs lsC hI hl => ?_, hnL⟩
      obtain ⟨hdg, rfl⟩ := tf_dc hi 1 rfl
      exact lv_aload hxx hb hdg (hl.2.2.2 _ _ (tf_getD hg)) (kk ad H locs lsC hI hl)
    · cases h
  · -- aload_n
    split at h
    · next n st x hg =>
      simp only [Option.some.injEq, Prod.mk.injEq] at h
      obtain ⟨rfl, rfl, rfl, rfl⟩ := h
      refine ⟨fun ad H locs lsC hI hl => ?_, hnL⟩
      obtain ⟨hdg, rfl⟩ := tf_dc hi 0 rfl
      exact lv_aload_n hxx hb hdg rfl (hl.2.2.2 _ _ (tf_getD hg)) (kk ad H locs lsC hI hl)
    · cases h
  · -- lload_n
    split at h
    · next n st x hg =>
      simp only [Option.some.injEq, Prod.mk.injEq] at h
      obtain ⟨rfl, rfl, rfl, rfl⟩ := h
      refine ⟨fun ad H locs lsC hI hl => ?_, hnL⟩
      obtain ⟨hdg, rfl⟩ := tf_dc hi 0 rfl
      exact lv_lload_n hxx hb hdg rfl (hl.2.2.2 _ _ (tf_getD hg)) (kk ad H locs lsC hI hl)
    · cases h
  · -- lv_istore
    next n x st =>
    obtain ⟨hdg, rfl⟩ := tf_dc hi 1 rfl
    split at h
    · cases h
    · cases h
    · next _ _ hlt hq1 hq2 =>
      simp only [Option.some.injEq, Prod.mk.injEq] at h
      obtain ⟨rfl, rfl, rfl, rfl⟩ := h
      have hn : n < ls.length := Nat.le_of_ble_eq_true hlt
      refine ⟨fun ad H locs lsC hI hl => ?_, by rw [List.length_set]; exact hnL⟩
      refine lv_istore hxx hb hdg (tf_hl_has hl) hn rfl (fun lsN hN => ?_)
      exact kk ad H locs lsN hI (tf_hl_set (v := .int x) rfl hn (fun k w e1 e2 => tf_prev rfl hq1 hq2 e1 e2) hN)
    · cases h
  · -- lv_istore_n
    next n x st =>
    obtain ⟨hdg, rfl⟩ := tf_dc hi 0 rfl
    split at h
    · cases h
    · cases h
    · next _ _ hlt hq1 hq2 =>
      simp only [Option.some.injEq, Prod.mk.injEq] at h
      obtain ⟨rfl, rfl, rfl, rfl⟩ := h
      have hn : n.val < ls.length := Nat.le_of_ble_eq_true hlt
      refine ⟨fun ad H locs lsC hI hl => ?_, by rw [List.length_set]; exact hnL⟩
      refine lv_istore_n hxx hb hdg rfl (tf_hl_has hl) hn rfl (fun lsN hN => ?_)
      exact kk ad H locs lsN hI (tf_hl_set (v := .int x) rfl hn (fun k w e1 e2 => tf_prev rfl hq1 hq2 e1 e2) hN)
    · cases h
  · -- lv_astore_n
    next n x st =>
    obtain ⟨hdg, rfl⟩ := tf_dc hi 0 rfl
    split at h
    · cases h
    · cases h
    · next _ _ hlt hq1 hq2 =>
      simp only [Option.some.injEq, Prod.mk.injEq] at h
      obtain ⟨rfl, rfl, rfl, rfl⟩ := h
      have hn : n.val < ls.length := Nat.le_of_ble_eq_true hlt
      refine ⟨fun ad H locs lsC hI hl => ?_, by rw [List.length_set]; exact hnL⟩
      refine lv_astore_n hxx hb hdg rfl (tf_hl_has hl) hn rfl (fun lsN hN => ?_)
      exact kk ad H locs lsN hI (tf_hl_set (v := .ref x) rfl hn (fun k w e1 e2 => tf_prev rfl hq1 hq2 e1 e2) hN)
    · cases h
  · -- iinc
    next st n n2 =>
    obtain ⟨hdg, rfl⟩ := tf_dc hi 2 rfl
    split at h
    · cases h
    · cases h
    · next _ _ _ x hlt hg hq1 hq2 =>
      simp only [Option.some.injEq, Prod.mk.injEq] at h
      obtain ⟨rfl, rfl, rfl, rfl⟩ := h
      have hn : n < ls.length := Nat.le_of_ble_eq_true hlt
      refine ⟨fun ad H locs lsC hI hl => ?_, by rw [List.length_set]; exact hnL⟩
      simp only [tf_ok2, Bool.and_eq_true, decide_eq_true_eq] at hi
      obtain ⟨k0, hk0⟩ := List.getElem?_of_mem (tf_lv_in.mpr ⟨_, tf_getD hg, rfl⟩ : (n, tf_tv ad (.int x)) ∈ tf_lv ad ls)
      refine lv_iinc (v := x + v) hxx hb hdg (tf_hl_has hl) (k := k0) hk0 (by rw [hi.2]) hn rfl (fun lsN hN => ?_)
      exact kk ad H locs lsN hI (tf_hl_set (v := .int (x + v)) rfl hn (fun k w e1 e2 => tf_prev rfl hq1 hq2 e1 e2) hN)
    · cases h
  · -- lv_iadd
    simp only [Option.some.injEq, Prod.mk.injEq] at h
    obtain ⟨rfl, rfl, rfl, rfl⟩ := h
    refine ⟨fun ad H locs lsC hI hl => ?_, hnL⟩
    obtain ⟨hdg, rfl⟩ := tf_dc hi 0 rfl
    exact lv_iadd hxx hb hdg (kk ad H locs lsC hI hl)
  · -- lv_isub
    simp only [Option.some.injEq, Prod.mk.injEq] at h
    obtain ⟨rfl, rfl, rfl, rfl⟩ := h
    refine ⟨fun ad H locs lsC hI hl => ?_, hnL⟩
    obtain ⟨hdg, rfl⟩ := tf_dc hi 0 rfl
    exact lv_isub hxx hb hdg (kk ad H locs lsC hI hl)
  · -- lv_imul
    simp only [Option.some.injEq, Prod.mk.injEq] at h
    obtain ⟨rfl, rfl, rfl, rfl⟩ := h
    refine ⟨fun ad H locs lsC hI hl => ?_, hnL⟩
    obtain ⟨hdg, rfl⟩ := tf_dc hi 0 rfl
    exact lv_imul hxx hb hdg (kk ad H locs lsC hI hl)
  · -- lv_iand
    simp only [Option.some.injEq, Prod.mk.injEq] at h
    obtain ⟨rfl, rfl, rfl, rfl⟩ := h
    refine ⟨fun ad H locs lsC hI hl => ?_, hnL⟩
    obtain ⟨hdg, rfl⟩ := tf_dc hi 0 rfl
    exact lv_iand hxx hb hdg (kk ad H locs lsC hI hl)
  · -- lv_ior
    simp only [Option.some.injEq, Prod.mk.injEq] at h
    obtain ⟨rfl, rfl, rfl, rfl⟩ := h
    refine ⟨fun ad H locs lsC hI hl => ?_, hnL⟩
    obtain ⟨hdg, rfl⟩ := tf_dc hi 0 rfl
    exact lv_ior hxx hb hdg (kk ad H locs lsC hI hl)
  · -- lv_ishl
    simp only [Option.some.injEq, Prod.mk.injEq] at h
    obtain ⟨rfl, rfl, rfl, rfl⟩ := h
    refine ⟨fun ad H locs lsC hI hl => ?_, hnL⟩
    obtain ⟨hdg, rfl⟩ := tf_dc hi 0 rfl
    exact lv_ishl hxx hb hdg (kk ad H locs lsC hI hl)
  · -- lv_ishr
    simp only [Option.some.injEq, Prod.mk.injEq] at h
    obtain ⟨rfl, rfl, rfl, rfl⟩ := h
    refine ⟨fun ad H locs lsC hI hl => ?_, hnL⟩
    obtain ⟨hdg, rfl⟩ := tf_dc hi 0 rfl
    exact lv_ishr hxx hb hdg (kk ad H locs lsC hI hl)
  · -- lv_idiv
    simp only [Option.some.injEq, Prod.mk.injEq] at h
    obtain ⟨rfl, rfl, rfl, rfl⟩ := h
    refine ⟨fun ad H locs lsC hI hl => ?_, hnL⟩
    obtain ⟨hdg, rfl⟩ := tf_dc hi 0 rfl
    exact lv_idiv hxx hb hdg hc.2 (kk ad H locs lsC hI hl)
  · -- lv_irem
    simp only [Option.some.injEq, Prod.mk.injEq] at h
    obtain ⟨rfl, rfl, rfl, rfl⟩ := h
    refine ⟨fun ad H locs lsC hI hl => ?_, hnL⟩
    obtain ⟨hdg, rfl⟩ := tf_dc hi 0 rfl
    exact lv_irem hxx hb hdg hc.2 (kk ad H locs lsC hI hl)
  · -- lv_ineg
    simp only [Option.some.injEq, Prod.mk.injEq] at h
    obtain ⟨rfl, rfl, rfl, rfl⟩ := h
    refine ⟨fun ad H locs lsC hI hl => ?_, hnL⟩
    obtain ⟨hdg, rfl⟩ := tf_dc hi 0 rfl
    exact lv_ineg hxx hb hdg (kk ad H locs lsC hI hl)
  · -- lv_i2l
    simp only [Option.some.injEq, Prod.mk.injEq] at h
    obtain ⟨rfl, rfl, rfl, rfl⟩ := h
    refine ⟨fun ad H locs lsC hI hl => ?_, hnL⟩
    obtain ⟨hdg, rfl⟩ := tf_dc hi 0 rfl
    exact lv_i2l hxx hb hdg rfl (kk ad H locs lsC hI hl)
  · -- lv_l2i
    simp only [Option.some.injEq, Prod.mk.injEq] at h
    obtain ⟨rfl, rfl, rfl, rfl⟩ := h
    refine ⟨fun ad H locs lsC hI hl => ?_, hnL⟩
    obtain ⟨hdg, rfl⟩ := tf_dc hi 0 rfl
    exact lv_l2i hxx hb hdg rfl (kk ad H locs lsC hI hl)
  · -- lv_land
    simp only [Option.some.injEq, Prod.mk.injEq] at h
    obtain ⟨rfl, rfl, rfl, rfl⟩ := h
    refine ⟨fun ad H locs lsC hI hl => ?_, hnL⟩
    obtain ⟨hdg, rfl⟩ := tf_dc hi 0 rfl
    exact lv_land hxx hb hdg (kk ad H locs lsC hI hl)
  · -- lv_lor
    simp only [Option.some.injEq, Prod.mk.injEq] at h
    obtain ⟨rfl, rfl, rfl, rfl⟩ := h
    refine ⟨fun ad H locs lsC hI hl => ?_, hnL⟩
    obtain ⟨hdg, rfl⟩ := tf_dc hi 0 rfl
    exact lv_lor hxx hb hdg (kk ad H locs lsC hI hl)
  · -- lv_lshl
    simp only [Option.some.injEq, Prod.mk.injEq] at h
    obtain ⟨rfl, rfl, rfl, rfl⟩ := h
    refine ⟨fun ad H locs lsC hI hl => ?_, hnL⟩
    obtain ⟨hdg, rfl⟩ := tf_dc hi 0 rfl
    exact lv_lshl hxx hb hdg rfl (kk ad H locs lsC hI hl)
  · -- lv_lshr
    simp only [Option.some.injEq, Prod.mk.injEq] at h
    obtain ⟨rfl, rfl, rfl, rfl⟩ := h
    refine ⟨fun ad H locs lsC hI hl => ?_, hnL⟩
    obtain ⟨hdg, rfl⟩ := tf_dc hi 0 rfl
    exact lv_lshr hxx hb hdg rfl (kk ad H locs lsC hI hl)
  · -- lv_lushr
    simp only [Option.some.injEq, Prod.mk.injEq] at h
    obtain ⟨rfl, rfl, rfl, rfl⟩ := h
    refine ⟨fun ad H locs lsC hI hl => ?_, hnL⟩
    obtain ⟨hdg, rfl⟩ := tf_dc hi 0 rfl
    exact lv_lushr hxx hb hdg rfl (kk ad H locs lsC hI hl)
  · -- lv_dup
    simp only [Option.some.injEq, Prod.mk.injEq] at h
    obtain ⟨rfl, rfl, rfl, rfl⟩ := h
    refine ⟨fun ad H locs lsC hI hl => ?_, hnL⟩
    obtain ⟨hdg, rfl⟩ := tf_dc hi 0 rfl
    exact lv_dup hxx hb hdg rfl (kk ad H locs lsC hI hl)
  · -- lv_dup
    simp only [Option.some.injEq, Prod.mk.injEq] at h
    obtain ⟨rfl, rfl, rfl, rfl⟩ := h
    refine ⟨fun ad H locs lsC hI hl => ?_, hnL⟩
    obtain ⟨hdg, rfl⟩ := tf_dc hi 0 rfl
    exact lv_dup hxx hb hdg rfl (kk ad H locs lsC hI hl)
  · -- lv_dup2_11
    simp only [Option.some.injEq, Prod.mk.injEq] at h
    obtain ⟨rfl, rfl, rfl, rfl⟩ := h
    refine ⟨fun ad H locs lsC hI hl => ?_, hnL⟩
    obtain ⟨hdg, rfl⟩ := tf_dc hi 0 rfl
    exact lv_dup2_11 hxx hb hdg rfl rfl (kk ad H locs lsC hI hl)
  · -- lv_pop
    simp only [Option.some.injEq, Prod.mk.injEq] at h
    obtain ⟨rfl, rfl, rfl, rfl⟩ := h
    refine ⟨fun ad H locs lsC hI hl => ?_, hnL⟩
    obtain ⟨hdg, rfl⟩ := tf_dc hi 0 rfl
    exact lv_pop hxx hb hdg rfl (kk ad H locs lsC hI hl)
  · -- getfield
    next idx o st =>
    obtain ⟨hdg, rfl⟩ := tf_dc hi 2 rfl
    split at h
    · next ci k hfl =>
      split at h
      · next hci hr =>
        simp only [Option.some.injEq, Prod.mk.injEq] at h
        obtain ⟨rfl, rfl, rfl, rfl⟩ := h
        obtain ⟨-, htg, hne⟩ := hc
        refine ⟨fun ad H locs lsC hI hl => ?_, hnL⟩
        have hc9 : ci < 9 := Nat.le_of_ble_eq_true hci
        obtain ⟨f1, f2, f3⟩ := tf_okF_f hF hfl hc9
        obtain ⟨g1, g2⟩ := tf_4 hI.2.2.2.2.2.2 (show tf_tg G o < 14 by omega)
        have hat := tf_ws_at (D := D) (ad := ad) (G := G) (S := S) g1 g2
        rw [tf_cell_o (show tf_tg G o < 9 by omega)] at hat
        have htg2 : (tf_e G o).1 = ci := htg
        rw [htg2] at hat
        have hv : (tf_fs ad S o (tf_e G o))[k]? = some (.ref (ad (tf_rf G o k))) := by
          rw [tf_fs_at (by rw [htg2]; exact f2), htg2, if_pos hr]
          show some (tf_rv ad (tf_rf G o k)) = _
          unfold tf_rv
          rw [if_neg hne]
        exact va_get (D := D.1) (ci := ci) hxx hb hts (tf_hin ci hc9) hown hI.2.2.1 hI.2.1 (o - 4) hat (tf_hcl ci hc9) k f2 (hts _ f1) (fun y hy => by rw [f3] at hy; exact hy) hv hdg (kk ad H locs lsC hI hl)
      · next hci hr =>
        simp only [Option.some.injEq, Prod.mk.injEq] at h
        obtain ⟨rfl, rfl, rfl, rfl⟩ := h
        obtain ⟨-, htg⟩ := hc
        refine ⟨fun ad H locs lsC hI hl => ?_, hnL⟩
        have hc9 : ci < 9 := Nat.le_of_ble_eq_true hci
        obtain ⟨f1, f2, f3⟩ := tf_okF_f hF hfl hc9
        obtain ⟨g1, g2⟩ := tf_4 hI.2.2.2.2.2.2 (show tf_tg G o < 14 by omega)
        have hat := tf_ws_at (D := D) (ad := ad) (G := G) (S := S) g1 g2
        rw [tf_cell_o (show tf_tg G o < 9 by omega)] at hat
        have htg2 : (tf_e G o).1 = ci := htg
        rw [htg2] at hat
        have hv : (tf_fs ad S o (tf_e G o))[k]? = some (.int (S o k)) := by
          rw [tf_fs_at (by rw [htg2]; exact f2), htg2, if_neg (by rw [hr]; decide)]
        exact va_get (D := D.1) (ci := ci) hxx hb hts (tf_hin ci hc9) hown hI.2.2.1 hI.2.1 (o - 4) hat (tf_hcl ci hc9) k f2 (hts _ f1) (fun y hy => by rw [f3] at hy; exact hy) hv hdg (kk ad H locs lsC hI hl)
      · cases h
    · cases h
  · -- putfield
    next idx y o st =>
    obtain ⟨hdg, rfl⟩ := tf_dc hi 2 rfl
    split at h
    · next ci k hfl =>
      have main : ∀ (hci : Nat.blt ci 9 = true) (hr : tf_isr ci k = false) (htg : tf_tg G o = ci) (hz : tf_isz ci k = true → y = 0 ∨ y = 1), tf_K (p, l, e, R, s, m, args, below, meth, c0, A, Q, D, ad0, G0, S0) kc ks G (tf_set S o k y) (pc + (2 + 1)) ls st → tf_K (p, l, e, R, s, m, args, below, meth, c0, A, Q, D, ad0, G0, S0) kc ks G S pc ls (.int y :: .ref o :: st) := by
        intro hci hr htg hz kk ad H locs lsC hI hl
        have hc9 : ci < 9 := Nat.le_of_ble_eq_true hci
        obtain ⟨f1, f2, f3⟩ := tf_okF_f hF hfl hc9
        obtain ⟨g1, g2⟩ := tf_4 hI.2.2.2.2.2.2 (show tf_tg G o < 14 by omega)
        have hat := tf_ws_at (D := D) (ad := ad) (G := G) (S := S) g1 g2
        have htg2 : (tf_e G o).1 = ci := htg
        have hcell := tf_cell_o (D := D) (ad := ad) (S := tf_set S o k y) (o := o) (e := tf_e G o) (show tf_tg G o < 9 by omega)
        rw [htg2] at hcell
        rw [tf_cell_o (show tf_tg G o < 9 by omega), htg2] at hat
        obtain ⟨z1, z2⟩ := tf_isz_ok ci hc9 k f2 hr
        have hn : narrow (tf_ty ci k) (.int y) = .int y := by
          rw [z2]
          split
          · next hb1 => exact tf_nar01 (hz hb1)
          · rfl
        have hfit : fits (tf_ty ci k) (.int y) = true := by
          rw [z2]
          split
          · next hb1 => rcases hz hb1 with rfl | rfl <;> rfl
          · rfl
        refine va_put (D := D.1) (ci := ci) (v := .int y) (ty := tf_ty ci k) hxx hb hts (tf_hin ci hc9) (tf_ty ci) (tf_hty ci hc9) (tf_hnm ci hc9) hown hI.2.2.1 hI.2.1 hI.2.2.2.1 hI.2.2.2.2.1 (o - 4) hat (tf_hcl ci hc9) k f2 (hts _ f1) (fun w hw => by rw [f3] at hw; exact hw) z1 (tf_hty ci hc9 k f2) hn hfit (by unfold tf_fs; rw [List.length_map, List.length_range, htg2]; exact f2) hdg (fun H1 locs1 hP hD hS => ?_)
        have hset : (tf_ws D ad G S).set (o - 4) (ad o, .inr (ci, (tf_fs ad S o (tf_e G o)).set k (.int y))) = tf_ws D ad G (tf_set S o k y) := by
          rw [tf_fs_set (by rw [htg2]; exact f2) (by rw [htg2]; exact hr), ← hcell]
          exact tf_ws_set g1 g2 tf_set_ne
        rw [hset] at hP hD
        exact kk ad H1 locs1 lsC ⟨hI.1, hP, hI.2.2.1, hD, hS, hI.2.2.2.2.2.1, tf_ro_set hI.2.2.2.2.2.2 (show tf_tg G o < 14 by omega) tf_set_ne⟩ hl
      split at h
      · next hci hr hz =>
        simp only [Option.some.injEq, Prod.mk.injEq] at h
        obtain ⟨rfl, rfl, rfl, rfl⟩ := h
        exact ⟨main hci hr hc.2 (fun q => by rw [hz] at q; cases q) kk, hnL⟩
      · next hci hr hz =>
        simp only [Option.some.injEq, Prod.mk.injEq] at h
        obtain ⟨rfl, rfl, rfl, rfl⟩ := h
        exact ⟨main hci hr hc.2.1 (fun _ => hc.2.2) kk, hnL⟩
      · cases h
    · cases h
  · -- iaload
    next i a st =>
    obtain ⟨hdg, rfl⟩ := tf_dc hi 0 rfl
    simp only [Option.some.injEq, Prod.mk.injEq] at h
    obtain ⟨rfl, rfl, rfl, rfl⟩ := h
    obtain ⟨-, htg, hin⟩ := hc
    refine ⟨fun ad H locs lsC hI hl => ?_, hnL⟩
    rcases htg with htg | htg
    · obtain ⟨g1, g2⟩ := tf_4 hI.2.2.2.2.2.2 (show tf_tg G a < 14 by omega)
      have hat := tf_ws_at (D := D) (ad := ad) (G := G) (S := S) g1 g2
      rw [tf_cell_i (Or.inl htg), show (tf_e G a).1 = 9 from htg] at hat
      exact va_iald (D := D.1) hxx hb hI.2.2.1 hI.2.1 (a - 4) 0 hat rfl hin hdg (kk ad H locs lsC hI hl)
    · obtain ⟨q1, q2, q3⟩ := hI.2.2.2.2.2.2.1 a htg
      have hT := hI.2.2.2.2.2.1.2.2.1 a q1
      rw [← hI.1 a (Or.inl (tf_tg_lt (by omega))), ← q2] at hT
      exact va_ti hxx hb hT hI.2.2.2.2.1 hin (v := .int (S a i.toNatClampNeg)) (by rw [q3]) hdg (kk ad H locs lsC hI hl)
  · -- baload
    next i a st =>
    obtain ⟨hdg, rfl⟩ := tf_dc hi 0 rfl
    simp only [Option.some.injEq, Prod.mk.injEq] at h
    obtain ⟨rfl, rfl, rfl, rfl⟩ := h
    obtain ⟨-, htg, hin⟩ := hc
    refine ⟨fun ad H locs lsC hI hl => ?_, hnL⟩
    obtain ⟨g1, g2⟩ := tf_4 hI.2.2.2.2.2.2 (show tf_tg G a < 14 by omega)
    have hat := tf_ws_at (D := D) (ad := ad) (G := G) (S := S) g1 g2
    rw [tf_cell_i (Or.inr htg), show (tf_e G a).1 = 10 from htg] at hat
    exact va_zald (D := D.1) hxx hb hI.2.2.1 hI.2.1 (a - 4) 1 hat rfl hin hdg (kk ad H locs lsC hI hl)
  · -- aaload
    next i a st =>
    obtain ⟨hdg, rfl⟩ := tf_dc hi 0 rfl
    simp only [Option.some.injEq, Prod.mk.injEq] at h
    obtain ⟨rfl, rfl, rfl, rfl⟩ := h
    obtain ⟨-, htg, hin, hne⟩ := hc
    refine ⟨fun ad H locs lsC hI hl => ?_, hnL⟩
    obtain ⟨g1, g2⟩ := tf_4 hI.2.2.2.2.2.2 (show tf_tg G a < 14 by omega)
    have hat := tf_ws_at (D := D) (ad := ad) (G := G) (S := S) g1 g2
    rw [tf_cell_r (show 11 ≤ tf_tg G a by omega)] at hat
    have hv : va_rf (tf_ra ad (tf_e G a) i.toNatClampNeg) = .ref (ad (tf_rf G a i.toNatClampNeg)) := by
      have hne2 : (tf_e G a).2.2.getD i.toNatClampNeg 0 ≠ 0 := hne
      unfold tf_ra
      rw [if_neg hne2]
      rfl
    have hk := kk ad H locs lsC hI hl
    rcases htg with htg | htg | htg
    · rw [show (tf_e G a).1 = 11 from htg] at hat
      exact va_aldq (D := D.1) (C := RX0) hxx hb hI.2.2.1 hI.2.1 (a - 4) 2 hat rfl hin hdg (by rw [hv]; exact hk)
    · rw [show (tf_e G a).1 = 12 from htg] at hat
      exact va_aldq (D := D.1) (C := RX1) hxx hb hI.2.2.1 hI.2.1 (a - 4) 3 hat rfl hin hdg (by rw [hv]; exact hk)
    · rw [show (tf_e G a).1 = 13 from htg] at hat
      exact va_aldq (D := D.1) (C := RX5) hxx hb hI.2.2.1 hI.2.1 (a - 4) 4 hat rfl hin hdg (by rw [hv]; exact hk)
  · -- iastore
    next y i a st =>
    obtain ⟨hdg, rfl⟩ := tf_dc hi 0 rfl
    simp only [Option.some.injEq, Prod.mk.injEq] at h
    obtain ⟨rfl, rfl, rfl, rfl⟩ := h
    obtain ⟨-, htg, hin⟩ := hc
    refine ⟨fun ad H locs lsC hI hl => ?_, hnL⟩
    obtain ⟨g1, g2⟩ := tf_4 hI.2.2.2.2.2.2 (show tf_tg G a < 14 by omega)
    have hat := tf_ws_at (D := D) (ad := ad) (G := G) (S := S) g1 g2
    rw [tf_cell_i (Or.inl htg), show (tf_e G a).1 = 9 from htg] at hat
    refine va_iast (D := D.1) hxx hb hI.2.2.1 hI.2.1 hI.2.2.2.1 hI.2.2.2.2.1 (a - 4) 0 hat rfl hin hdg (fun H1 locs1 hP hD hS => ?_)
    have hset : (tf_ws D ad G S).set (a - 4) (ad a, .inl (D.2 9, (tf_e G a).2.1, .inl (upd (S a) i.toNatClampNeg y))) = tf_ws D ad G (tf_set S a i.toNatClampNeg y) := by
      have hcell := tf_cell_i (D := D) (ad := ad) (S := tf_set S a i.toNatClampNeg y) (o := a) (e := tf_e G a) (Or.inl htg)
      rw [show (tf_e G a).1 = 9 from htg, tf_set_self] at hcell
      rw [← hcell]
      exact tf_ws_set g1 g2 tf_set_ne
    rw [hset] at hP hD
    exact kk ad H1 locs1 lsC ⟨hI.1, hP, hI.2.2.1, hD, hS, hI.2.2.2.2.2.1, tf_ro_set hI.2.2.2.2.2.2 (show tf_tg G a < 14 by omega) tf_set_ne⟩ hl
  · -- bastore
    next y i a st =>
    obtain ⟨hdg, rfl⟩ := tf_dc hi 0 rfl
    simp only [Option.some.injEq, Prod.mk.injEq] at h
    obtain ⟨rfl, rfl, rfl, rfl⟩ := h
    obtain ⟨-, htg, hin, hy⟩ := hc
    refine ⟨fun ad H locs lsC hI hl => ?_, hnL⟩
    obtain ⟨g1, g2⟩ := tf_4 hI.2.2.2.2.2.2 (show tf_tg G a < 14 by omega)
    have hat := tf_ws_at (D := D) (ad := ad) (G := G) (S := S) g1 g2
    rw [tf_cell_i (Or.inr htg), show (tf_e G a).1 = 10 from htg] at hat
    refine va_zast (D := D.1) hxx hb hI.2.2.1 hI.2.1 hI.2.2.2.1 hI.2.2.2.2.1 (a - 4) 1 hat rfl hin hdg (fun H1 locs1 hP hD hS => ?_)
    have hnar : vp_nar .boolean y = y := by rcases hy with rfl | rfl <;> rfl
    rw [hnar] at hP hD
    have hset : (tf_ws D ad G S).set (a - 4) (ad a, .inl (D.2 10, (tf_e G a).2.1, .inl (upd (S a) i.toNatClampNeg y))) = tf_ws D ad G (tf_set S a i.toNatClampNeg y) := by
      have hcell := tf_cell_i (D := D) (ad := ad) (S := tf_set S a i.toNatClampNeg y) (o := a) (e := tf_e G a) (Or.inr htg)
      rw [show (tf_e G a).1 = 10 from htg, tf_set_self] at hcell
      rw [← hcell]
      exact tf_ws_set g1 g2 tf_set_ne
    rw [hset] at hP hD
    exact kk ad H1 locs1 lsC ⟨hI.1, hP, hI.2.2.1, hD, hS, hI.2.2.2.2.2.1, tf_ro_set hI.2.2.2.2.2.2 (show tf_tg G a < 14 by omega) tf_set_ne⟩ hl
  · -- arraylength
    next a st =>
    obtain ⟨hdg, rfl⟩ := tf_dc hi 0 rfl
    simp only [Option.some.injEq, Prod.mk.injEq] at h
    obtain ⟨rfl, rfl, rfl, rfl⟩ := h
    obtain ⟨-, htg⟩ := hc
    refine ⟨fun ad H locs lsC hI hl => ?_, hnL⟩
    rcases htg with htg | htg
    · obtain ⟨g1, g2⟩ := tf_4 hI.2.2.2.2.2.2 (show tf_tg G a < 14 by omega)
      have hat := tf_ws_at (D := D) (ad := ad) (G := G) (S := S) g1 g2
      rw [tf_cell_i (Or.inl htg), show (tf_e G a).1 = 9 from htg] at hat
      exact va_alen (D := D.1) hxx hb hI.2.2.1 hI.2.1 (a - 4) 0 hat (ty := .int) rfl rfl hdg (kk ad H locs lsC hI hl)
    · obtain ⟨q1, q2, q3⟩ := hI.2.2.2.2.2.2.1 a htg
      have hT := hI.2.2.2.2.2.1.2.2.1 a q1
      rw [← hI.1 a (Or.inl (tf_tg_lt (by omega))), ← q2] at hT
      obtain ⟨cell, h1, h2, h3, h4, h5, h6, h7⟩ := hT
      exact W.alen (n := nI (tf_ln G a)) hxx hb (by rw [hI.2.2.2.2.1.2.1 (ad a) (Array.getElem?_eq_some_iff.mp h1).1 h7]; exact h1) h2 h5 rfl rfl hdg (kk ad H locs lsC hI hl)
  · -- getstatic
    next idx st =>
    obtain ⟨hdg, rfl⟩ := tf_dc hi 2 rfl
    split at h
    · next hfl =>
      simp only [Option.some.injEq, Prod.mk.injEq] at h
      obtain ⟨rfl, rfl, rfl, rfl⟩ := h
      refine ⟨fun ad H locs lsC hI hl => ?_, hnL⟩
      have h4 : 4 ≤ G0.length := hI.2.2.2.2.2.2.2.2.2.1
      have hZ := hI.2.2.2.2.2.1.1
      rw [← hI.1 1 (Or.inl (by omega))] at hZ
      exact va_gets hxx hb hZ hI.2.2.2.2.1 hown (hts _ (tf_okF_g1 hF hfl)) (fun _ h => h) hdg (kk ad H locs lsC hI hl)
    · next hfl =>
      simp only [Option.some.injEq, Prod.mk.injEq] at h
      obtain ⟨rfl, rfl, rfl, rfl⟩ := h
      refine ⟨fun ad H locs lsC hI hl => ?_, hnL⟩
      have h4 : 4 ≤ G0.length := hI.2.2.2.2.2.2.2.2.2.1
      have hZ := hI.2.2.2.2.2.1.2.1
      rw [← hI.1 2 (Or.inl (by omega))] at hZ
      exact va_gets hxx hb hZ hI.2.2.2.2.1 hown (hts _ (tf_okF_g2 hF hfl)) (fun _ h => h) hdg (kk ad H locs lsC hI hl)
    · cases h
  · -- Math, two
    next idx y x st =>
    obtain ⟨hdg, rfl⟩ := tf_dc hi 2 rfl
    split at h
    · next hfl hrm =>
      simp only [Option.some.injEq, Prod.mk.injEq] at h
      obtain ⟨rfl, rfl, rfl, rfl⟩ := h
      refine ⟨fun ad H locs lsC hI hl => ?_, hnL⟩
      obtain ⟨m1, m2, m3, m4⟩ := tf_okF_m hF hfl
      have := tf_room_ok (ad := ad) hrm
      exact va_mmin hxx hb (by rw [hml, hl.2.1, hnL]) hown (hts _ m1) (hts _ m2) (hts _ m3) (hts _ m4) (by omega) (by omega) (by omega) (by omega) hdg (kk ad H locs lsC hI hl)
    · next hfl hrm =>
      simp only [Option.some.injEq, Prod.mk.injEq] at h
      obtain ⟨rfl, rfl, rfl, rfl⟩ := h
      refine ⟨fun ad H locs lsC hI hl => ?_, hnL⟩
      obtain ⟨m1, m2, m3, m4⟩ := tf_okF_m hF hfl
      have := tf_room_ok (ad := ad) hrm
      exact va_mmax hxx hb (by rw [hml, hl.2.1, hnL]) hown (hts _ m1) (hts _ m2) (hts _ m3) (hts _ m4) (by omega) (by omega) (by omega) (by omega) hdg (kk ad H locs lsC hI hl)
    · next hfl hrm =>
      cases hr2 : tf_room (.int x :: st) with
      | false => rw [hr2] at h; simp only [cond_false] at h; cases h
      | true =>
        rw [hr2] at h
        simp only [cond_true, Option.some.injEq, Prod.mk.injEq] at h
        obtain ⟨rfl, rfl, rfl, rfl⟩ := h
        refine ⟨fun ad H locs lsC hI hl => ?_, hnL⟩
        obtain ⟨m1, m2, m3, m4⟩ := tf_okF_m hF hfl
        have := tf_room_ok (ad := ad) hr2
        exact va_mabs hxx hb (by rw [hml, hl.2.1, hnL]) hown (hts _ m1) (hts _ m2) (hts _ m3) (hts _ m4) (by omega) (by rw [List.map_cons] at this; exact Nat.le_trans (Nat.add_le_add_right this 13) (by omega)) (by omega) (by omega) hdg (kk ad H locs lsC hI hl)
    · cases h
  · -- Math, one
    next idx y st _ =>
    obtain ⟨hdg, rfl⟩ := tf_dc hi 2 rfl
    split at h
    · next hfl hrm =>
      simp only [Option.some.injEq, Prod.mk.injEq] at h
      obtain ⟨rfl, rfl, rfl, rfl⟩ := h
      refine ⟨fun ad H locs lsC hI hl => ?_, hnL⟩
      obtain ⟨m1, m2, m3, m4⟩ := tf_okF_m hF hfl
      have := tf_room_ok (ad := ad) hrm
      exact va_mabs hxx hb (by rw [hml, hl.2.1, hnL]) hown (hts _ m1) (hts _ m2) (hts _ m3) (hts _ m4) (by omega) (by omega) (by omega) (by omega) hdg (kk ad H locs lsC hI hl)
    · cases h
  · -- Object
    next idx o st =>
    obtain ⟨hdg, rfl⟩ := tf_dc hi 2 rfl
    split at h
    · next k hfl hrm =>
      simp only [Option.some.injEq, Prod.mk.injEq] at h
      obtain ⟨rfl, rfl, rfl, rfl⟩ := h
      refine ⟨fun ad H locs lsC hI hl => ?_, hnL⟩
      obtain ⟨m1, m2, m3⟩ := tf_okF_o hF hfl
      have := tf_room_ok (ad := ad) hrm
      exact W.objInit hxx hb hown (hts _ m1) (hts _ m2) (hts _ m3) rfl (by show lsC.size = _; rw [hml, hl.2.1, hnL]) rfl hdg (by omega) (by show 2 * 0 + _ + 12 ≤ _; omega) (kk ad H locs lsC hI hl)
    · cases h
  · -- ldc2_w
    next idx st =>
    obtain ⟨hdg, rfl⟩ := tf_dc hi 2 rfl
    split at h
    · next n hfl =>
      simp only [Option.some.injEq, Prod.mk.injEq] at h
      obtain ⟨rfl, rfl, rfl, rfl⟩ := h
      refine ⟨fun ad H locs lsC hI hl => ?_, hnL⟩
      exact lv_ldc2 hxx hb hown (hts _ (tf_okF_c hF hfl)) hdg (kk ad H locs lsC hI hl)
    · cases h
  · cases h
