theorem tf_and_mono {C : Prop} {c : Option Prop} (h : tf_and C c) : C ∧ tf_and True c := by
  cases c with
  | none => exact ⟨h, trivial⟩
  | some c => exact ⟨h.1, trivial, h.2⟩
theorem tf_br_ok {x : tf_X} {cc : ByteArray} {own : String} {nL d mc ms : Nat} {ini : Bool} (hx : tf_C x cc own nL d mc ms ini) {G : tf_G} {S : tf_Sg} {ls : List (Option Value)} {st st' : List Value} {c : Prop} {i : Instr} {v : Int32} {pc nx tg : Nat}
    (hi : tf_ok2 cc (pc, i, nx, tg, v) = true) (h : tf_br i st = some (c, st')) {kc ks : Nat} (kt : c → tf_K x kc ks G S tg ls st') (kf : ¬ c → tf_K x kc ks G S nx ls st') : tf_K x kc ks G S pc ls st := by
  obtain ⟨p, l, e, R, s, m, args, below, meth, c0, A, Q, D, ad0, G0, S0⟩ := x
  obtain ⟨hxx, hb, -⟩ := hx
  intro ad H locs lsC hI hl
  unfold tf_br at h
  split at h
  all_goals try (cases h; done)
  all_goals
    simp only [Option.some.injEq, Prod.mk.injEq] at h
    obtain ⟨rfl, rfl⟩ := h
    obtain ⟨hdg, rfl⟩ := tf_dc hi 2 rfl
    simp only [tf_ok2, Bool.and_eq_true, decide_eq_true_eq] at hi
    obtain ⟨-, hi⟩ := hi
    have kt' := fun hc => kt hc ad H locs lsC hI hl
    have kf' := fun hc => kf hc ad H locs lsC hI hl
  · exact lv_if_eq hxx hb hdg hi kt' kf'
  · exact lv_if_ne hxx hb hdg hi kt' (fun hc => kf' (fun h => h hc))
  · exact lv_if_lt hxx hb hdg hi kt' kf'
  · exact lv_if_ge hxx hb hdg hi kt' kf'
  · exact lv_if_gt hxx hb hdg hi kt' kf'
  · exact lv_if_le hxx hb hdg hi kt' kf'
  · exact lv_icmp_eq hxx hb hdg hi kt' kf'
  · exact lv_icmp_ne hxx hb hdg hi kt' (fun hc => kf' (fun h => h hc))
  · exact lv_icmp_lt hxx hb hdg hi kt' kf'
  · exact lv_icmp_ge hxx hb hdg hi kt' kf'
  · exact lv_icmp_gt hxx hb hdg hi kt' kf'
  · exact lv_icmp_le hxx hb hdg hi kt' kf'
theorem tf_goto_ok {x : tf_X} {cc : ByteArray} {own : String} {nL d mc ms : Nat} {ini : Bool} (hx : tf_C x cc own nL d mc ms ini) {G : tf_G} {S : tf_Sg} {ls : List (Option Value)} {st : List Value} {off : Int} {v : Int32} {pc nx tg : Nat}
    (hi : tf_ok2 cc (pc, .goto off, nx, tg, v) = true) {kc ks : Nat} (kk : tf_K x kc ks G S tg ls st) : tf_K x kc ks G S pc ls st := by
  obtain ⟨p, l, e, R, s, m, args, below, meth, c0, A, Q, D, ad0, G0, S0⟩ := x
  obtain ⟨hxx, hb, -⟩ := hx
  intro ad H locs lsC hI hl
  obtain ⟨hdg, rfl⟩ := tf_dc hi 2 rfl
  simp only [tf_ok2, Bool.and_eq_true, decide_eq_true_eq] at hi
  exact lv_goto hxx hb hdg hi.2 (kk ad H locs lsC hI hl)
theorem tf_op_len {F : tf_F} {G : tf_G} {S S' : tf_Sg} {ls ls' : List (Option Value)} {st st' : List Value} {c : Option Prop} {i : Instr} {v : Int32} (h : tf_op G F ls S v i st = some (ls', st', S', c)) : ls'.length = ls.length := by
  unfold tf_op at h
  split at h
  all_goals try (cases h; done)
  all_goals try (simp only [Option.some.injEq, Prod.mk.injEq] at h; obtain ⟨rfl, -⟩ := h; rfl)
  all_goals split at h
  all_goals try (cases h; done)
  all_goals try (simp only [Option.some.injEq, Prod.mk.injEq] at h; obtain ⟨rfl, -⟩ := h; first | rfl | exact List.length_set)
  all_goals first | (split at h) | (cases hq : tf_room _ <;> simp [hq] at h)
  all_goals try (cases h; done)
  all_goals try (simp only [Option.some.injEq, Prod.mk.injEq] at h; obtain ⟨rfl, -⟩ := h; first | rfl | exact List.length_set)
  all_goals (generalize tf_room _ = bb at h; cases bb <;> first | (simp at h; done) | (simp only [cond_true, Option.some.injEq, Prod.mk.injEq] at h; obtain ⟨rfl, -⟩ := h; rfl))
theorem tf_run_ok {x : tf_X} {cc : ByteArray} {own : String} {nL d mc ms : Nat} {ini : Bool} (hx : tf_C x cc own nL d mc ms ini) (hd : 1 ≤ d) {F : tf_F} (hF : tf_okF own F) {T : tf_T} (hT : tf_okT cc T) {G : tf_G} {kc ks : Nat} (hkc : kc ≤ mc) (hks : ks ≤ ms) : ∀ (n : Nat) (bs : List Bool) (pc : Nat) (ls : List (Option Value)) (st : List Value) (S : tf_Sg) (C : Prop) {pc' : Nat} {ls' : List (Option Value)} {st' : List Value} {S' : tf_Sg} {C' : Prop},
    tf_run G F T n bs pc ls st S C = some (pc', ls', st', S', C') → C' → ls.length = nL → C ∧ (tf_K x kc ks G S' pc' ls' st' → tf_K x kc ks G S pc ls st)
  | 0, _, pc, ls, st, S, C, pc', ls', st', S', C', h, hC, hl => by
    simp only [tf_run, Option.some.injEq, Prod.mk.injEq] at h
    obtain ⟨rfl, rfl, rfl, rfl, rfl⟩ := h
    exact ⟨hC, id⟩
  | n + 1, bs, pc, ls, st, S, C, pc', ls', st', S', C', h, hC, hl => by
    simp only [tf_run] at h
    split at h
    · cases h
    · next i nx tg v hat =>
      have hi := tf_dec hT hat
      split at h
      · obtain ⟨h1, h2⟩ := tf_run_ok hx hd hF hT hkc hks n bs _ ls st S C h hC hl
        exact ⟨h1, fun kk => tf_goto_ok hx hi (h2 kk)⟩
      · split at h
        · next c st1 hbr =>
          split at h
          · cases h
          · obtain ⟨h1, h2⟩ := tf_run_ok hx hd hF hT hkc hks n _ _ ls _ S _ h hC hl
            exact ⟨h1.1, fun kk => tf_br_ok hx hi hbr (fun _ => h2 kk) (fun hn => absurd h1.2 hn)⟩
          · obtain ⟨h1, h2⟩ := tf_run_ok hx hd hF hT hkc hks n _ _ ls _ S _ h hC hl
            exact ⟨h1.1, fun kk => tf_br_ok hx hi hbr (fun hn => absurd hn h1.2) (fun _ => h2 kk)⟩
        · split at h
          · cases h
          · next ls1 st1 S1 c hop =>
            have hlen := tf_op_len hop
            obtain ⟨h1, h2⟩ := tf_run_ok hx hd hF hT hkc hks n bs _ ls1 st1 S1 _ h hC (hlen.trans hl)
            obtain ⟨h3, h4⟩ := tf_and_mono h1
            exact ⟨h3, fun kk => (tf_op_ok hx hd hF hi hop h4 hkc hks hl (h2 kk)).1⟩
/-- a stretch of straight code -/
theorem tf_go {x : tf_X} {cc : ByteArray} {own : String} {nL d mc ms : Nat} {ini : Bool} (hx : tf_C x cc own nL d mc ms ini) {F : tf_F} {T : tf_T} (hFT : 1 ≤ d ∧ tf_okF own F ∧ tf_okT cc T) {G : tf_G} {kc ks : Nat} (n : Nat) (bs : List Bool) (pc' : Nat) (ls' : List (Option Value)) (st' : List Value) (S' : tf_Sg) {pc : Nat} {ls : List (Option Value)} {st : List Value} {S : tf_Sg} {C' : Prop}
    (h : tf_run G F T n bs pc ls st S True = some (pc', ls', st', S', C')) (hk : kc ≤ mc ∧ ks ≤ ms ∧ ls.length = nL) (hC : C') (kk : tf_K x kc ks G S' pc' ls' st') : tf_K x kc ks G S pc ls st := (tf_run_ok hx hFT.1 hFT.2.1 hFT.2.2 hk.1 hk.2.1 n bs pc ls st S True h hC hk.2.2).2 kk
theorem tf_range_map {α : Type} (l : List α) : (List.range l.length).map (fun i => l[i]?) = l.map some := by
  apply List.ext_getElem?
  intro k
  rw [List.getElem?_map, List.getElem?_map]
  by_cases hk : k < l.length
  · rw [List.getElem?_range hk]
    simp [hk]
  · rw [List.getElem?_eq_none (by simpa using hk), List.getElem?_eq_none (by simpa using hk)]
    rfl
theorem tf_free {x : tf_X} {ad : Nat → Nat} {G : tf_G} {S : tf_Sg} {H : Heap} {locs : List Loc} {A0 : Nat → Prop} {D : tf_D} {H0 : Heap} (hD : va_D A0 (tf_ws D ad G S)) (hS : va_S A0 H0 H locs) (hA : ∀ q, H0.size ≤ q → A0 q) : ∀ q, va_A (tf_ws D ad G S) H.size q → A0 q := va_free (wc := tf_ws D ad G S) hD hS hA (List.range (tf_ws D ad G S).length) (tf_range_map _)
/-- the world at a call is a contract's start -/
theorem tf_in_wd {p : Program} {l : Launch} {e : Env} {R : Room} {s : State} {m : MethodId} {args : Array Value} {below : List Frame} {meth : Method} {c0 : Code} {A : Nat → Prop} {Q : State → Prop} {D : tf_D} {ad0 : Nat → Nat} {G0 : tf_G} {S0 : tf_Sg} {ad : Nat → Nat} {G : tf_G} {S : tf_Sg} {H : Heap} {locs : List Loc}
    (hI : tf_In (p, l, e, R, s, m, args, below, meth, c0, A, Q, D, ad0, G0, S0) ad G S H locs) (hA : ∀ q, s.heap.size ≤ q → A q) {U : State} (hU : U.heap = H) (hW : s.WarmedH U.vm) : U.heap.size = H.size ∧ tf_Wd D ad G S (va_A (tf_ws D ad G S) H.size) U := by
  obtain ⟨hag, hP, hK, hD, hS, ⟨z1, z2, zt, zn, za⟩, hro⟩ := hI
  have h4 : 4 ≤ G0.length := hro.2.2.2.1
  have hF : ∀ q, va_A (tf_ws D ad G S) H.size q → A q := va_free (wc := tf_ws D ad G S) hD hS hA (List.range (tf_ws D ad G S).length) (tf_range_map _)
  refine ⟨by rw [hU], by rw [hU]; exact hP, va_K.moved hW.alike hK, hD.self, ?_, fun i hi => ⟨hi, rfl, rfl⟩, hro.2.1, Nat.le_refl _, Nat.le_trans h4 hro.2.2.1, hro.2.2.2.2⟩
  rw [hU]
  refine ⟨?_, ?_, fun i hi => ?_, fun q hq => va_Nw.warmM hW (zn q hq), fun C hC => (za C hC).moved hW.alike⟩
  · rw [hag 1 (Or.inl (by omega))]
    exact ((z1.moved hW.alike).kept hS.2.1).narrow hF
  · rw [hag 2 (Or.inl (by omega))]
    exact ((z2.moved hW.alike).kept hS.2.1).narrow hF
  · obtain ⟨r1, r2, r3⟩ := hro.1 i hi
    have h := zt i r1
    rw [← r2, ← r3, ← hag i (Or.inl (tf_tg_lt (by omega)))] at h
    exact ((h.moved hW.alike).kept hS.2.1).narrow hF
theorem tf_ro_trans {G0 G G' : tf_G} {S0 S S' : tf_Sg} (h1 : tf_ro G0 S0 G S) (h2 : tf_ro G S G' S') : tf_ro G0 S0 G' S' := by
  refine ⟨fun i hi => ?_, h2.2.1, Nat.le_trans h1.2.2.1 h2.2.2.1, h1.2.2.2.1, h2.2.2.2.2⟩
  obtain ⟨a1, a2, a3⟩ := h2.1 i hi
  obtain ⟨b1, b2, b3⟩ := h1.1 i a1
  exact ⟨b1, a2.trans b2, a3.trans b3⟩
/-- references that are known -/
def tf_vs (n n' : Nat) (l : List Value) : Prop := ∀ o, Value.ref o ∈ l → o < n ∨ n' ≤ o
theorem tf_vs_same {n : Nat} {l : List Value} : tf_vs n n l := fun o _ => Nat.lt_or_ge o n
theorem tf_tv_same {ad ad' : Nat → Nat} {n n' : Nat} (hag : ∀ i, i < n ∨ n' ≤ i → ad' i = ad i) {l : List Value} (hv : tf_vs n n' l) {v : Value} (h : v ∈ l) : tf_tv ad' v = tf_tv ad v := by
  cases v with
  | ref o => show Value.ref _ = .ref _; rw [hag o (hv o h)]
  | _ => rfl
theorem tf_hl_ad {lsC : Array Slot} {ad ad' : Nat → Nat} {n n' : Nat} {ls : List (Option Value)} (hag : ∀ i, i < n ∨ n' ≤ i → ad' i = ad i) (hv : tf_vs n n' (ls.filterMap id)) (h : tf_hl lsC ls.length ad ls) : tf_hl lsC ls.length ad' ls :=
  ⟨h.1, h.2.1, h.2.2.1, fun i v hiv => by rw [tf_tv_same hag hv (List.mem_filterMap.mpr ⟨some v, List.mem_of_getElem? hiv, rfl⟩)]; exact h.2.2.2 i v hiv⟩
/-- what a call leaves -/
def tf_Qa (D : tf_D) (ad : Nat → Nat) (G : tf_G) (S : tf_Sg) (sz : Nat) (G' : tf_G) (S' : tf_Sg) (r : Option Value) : State → Outcome → State → Prop := fun st o t =>
  (∃ ad' : Nat → Nat, (∀ i, i < G.length ∨ G'.length ≤ i → ad' i = ad i) ∧ o = .returned (r.map (tf_tv ad')) ∧ va_P D.1 vwCl (tf_ws D ad' G' S') t.heap ∧ va_D (va_A (tf_ws D ad G S) sz) (tf_ws D ad' G' S') ∧ tf_ro G S G' S') ∧ va_F (va_A (tf_ws D ad G S) sz) st t
theorem tf_back {p : Program} {l : Launch} {e : Env} {R : Room} {s : State} {m : MethodId} {args : Array Value} {below : List Frame} {meth : Method} {c0 : Code} {A : Nat → Prop} {Q : State → Prop} {D : tf_D} {ad0 : Nat → Nat} {G0 : tf_G} {S0 : tf_Sg} {ad : Nat → Nat} {G G' : tf_G} {S S' : tf_Sg} {H : Heap} {locs : List Loc} {r : Option Value} {kc ks mc1 ms1 pc : Nat} {ls : List (Option Value)} {rest : List Value} {lsC : Array Slot} {st0 : List Value}
    (hI : tf_In (p, l, e, R, s, m, args, below, meth, c0, A, Q, D, ad0, G0, S0) ad G S H locs) (hA : ∀ q, s.heap.size ≤ q → A q) (hl : tf_hl lsC ls.length ad ls) (hv1 : tf_vs G.length G'.length (ls.filterMap id)) (hv2 : tf_vs G.length G'.length rest)
    (hr : va_Run p l e R s m args below meth c0 H locs kc ks mc1 ms1 (F0 m pc lsC st0) (rest.map (tf_tv ad)) (tf_Qa D ad G S H.size G' S' r) (va_A (tf_ws D ad G S) H.size))
    (kk : tf_K (p, l, e, R, s, m, args, below, meth, c0, A, Q, D, ad0, G0, S0) (kc + mc1) (ks + ms1) G' S' (pc + 3) ls (r.toList ++ rest)) : W p l e R s m args below meth c0 H locs kc ks Q (F0 m pc lsC st0) := by
  intro T hT X
  obtain ⟨v, st₀, t, T', L, h0, X', hL, e1, e2, ⟨⟨ad', hag, hv, hP1, hD1, hro⟩, hz, hk⟩, st⟩ := hr T hT X
  have hv' : v = r.map (tf_tv ad') := by injection hv
  subst hv'
  rw [h0] at hz hk
  obtain ⟨hag0, hP, hK, hD, hS, hRo, hro0⟩ := hI
  have hF : ∀ q, va_A (tf_ws D ad G S) H.size q → A q := va_free (wc := tf_ws D ad G S) hD hS hA (List.range (tf_ws D ad G S).length) (tf_range_map _)
  have hI' : tf_In (p, l, e, R, s, m, args, below, meth, c0, A, Q, D, ad0, G0, S0) ad' G' S' T'.heap (locs ++ L) := by
    refine ⟨fun i hi => ?_, by rw [e1]; exact hP1, hK, hD1.weaken (fun k q _ h => hF q.1 h), ⟨Nat.le_trans hS.1 (by rw [e1]; exact hz), fun q h1 h2 => ?_, fun q hq => ?_⟩, hRo, tf_ro_trans hro0 hro⟩
    · have g1 := hro.2.2.1
      have g2 := hro0.2.2.1
      rw [hag i (by omega), hag0 i (by omega)]
    · rw [e1, hk q (Nat.lt_of_lt_of_le h1 hS.1) (fun z => h2 (hF q z))]
      exact hS.2.1 q h1 h2
    · rcases List.mem_append.mp hq with h | h
      · exact hS.2.2 q h
      · exact hF _ (hL q h)
  have hst : ((r.toList ++ rest).map (tf_tv ad')) = (r.map (tf_tv ad')).toList ++ rest.map (tf_tv ad) := by
    rw [List.map_append]
    congr 1
    · cases r <;> rfl
    · exact List.map_congr_left fun v hv => tf_tv_same hag hv2 hv
  have k2 := kk ad' T'.heap (locs ++ L) lsC hI' (tf_hl_ad hag hv1 hl)
  rw [hst] at k2
  obtain ⟨t2, a1, b1⟩ := k2 T' rfl X'
  exact ⟨t2, st t2 a1, b1⟩
/-! the four calls; the links of a call -/
def tf_okL (own : String) (idx n : Nat) (M : tf_M) : Prop := M.1.cls ≠ "java/lang/invoke/MethodHandle" ∧ M.1.cls ≠ "java/lang/invoke/VarHandle" ∧ (parseMethodDescriptor M.1.desc).map (fun d => d.parameters.length) = some n ∧ M.2.2.1 ≤ 13 ∧ Cond.code M.1 M.2.1 M.2.2.1 M.2.2.2 ∈ tf_TB ∧ Cond.initialized M.1.cls ∈ tf_TB
def tf_okV (own : String) (idx n ci : Nat) (M : tf_M) : Prop := tf_okL own idx n M ∧ Cond.methodLink own idx M.1 ∈ tf_TB ∧ Cond.instanceMethod M.1 ∈ tf_TB ∧ Cond.selects M.1.cls M.1 M.1 ∈ tf_TB ∧ ci < 9 ∧ (tf_cl ci).1 = M.1.cls
def tf_okS (own : String) (idx n : Nat) (M : tf_M) : Prop := tf_okL own idx n M ∧ Cond.methodLink own idx M.1 ∈ tf_TB ∧ Cond.static M.1 ∈ tf_TB
def tf_okN (own : String) (idx n : Nat) (M : tf_M) : Prop := tf_okL own idx n M ∧ (own, idx) ∈ tf_nest ∧ M.1 = yX10_noKey ∧ Cond.static M.1 ∈ tf_TB
def tf_okI (own : String) (idx n : Nat) (M : tf_M) : Prop := tf_okL own idx n M ∧ Cond.methodLink own idx M.1 ∈ tf_TB ∧ Cond.instanceMethod M.1 ∈ tf_TB ∧ M.1.name = "<init>" ∧ M.2.2.2 = none
theorem tf_gw {M : tf_M} {own : String} {idx n : Nat} (h : tf_okL own idx n M) : ∀ w ∈ tf_w M, w ∈ tf_TB := by
  intro w hw
  rcases List.mem_cons.mp hw with rfl | hw
  · exact h.2.2.2.2.1
  · exact hw
theorem tf_blind {D : tf_D} {ad : Nat → Nat} {G : tf_G} {S : tf_Sg} {A : Nat → Prop} {av : List Value} {sz : Nat} : FrameBlind (va_Pc av (fun U => U.heap.size = sz ∧ tf_Wd D ad G S A U)) := by
  intro a U g mk q
  obtain ⟨q0, q1, q2, q3, q4, q5, q6⟩ := q
  refine ⟨q0, q1, q2, va_K.moved (u := U) (U := U.calling g mk a) (Vm.Alike.refl U.vm) q3, q4, ?_, q6⟩
  obtain ⟨z1, z2, zt, zn, za⟩ := q5
  exact ⟨va_Z.moved (u := U) (U := U.calling g mk a) (Vm.Alike.refl U.vm) z1, va_Z.moved (u := U) (U := U.calling g mk a) (Vm.Alike.refl U.vm) z2, fun i hi => va_T.moved (u := U) (U := U.calling g mk a) (Vm.Alike.refl U.vm) (zt i hi), fun q hq => va_Nw.same (u := U) (U := U.calling g mk a) rfl rfl (zn q hq), fun C hC => va_AO.moved (u := U) (U := U.calling g mk a) (Vm.Alike.refl U.vm) (za C hC)⟩
theorem tf_cb {args : Array Value} {s : State} {R : Room} {M : tf_M} {own : String} {idx n d d1 mc1 ms1 : Nat} (hts : ∀ w ∈ tf_TB, w.before args s = true) (hL : tf_okL own idx n M) (hl : Cond.methodLink own idx M.1 ∈ tf_TB) (hd : d1 + 1 ≤ d) (hR : d ≤ R.frames ∧ 32 * d ≤ R.locals) : CallB R s args own idx M.1 M.2.1 M.2.2.1 M.2.2.2 (tf_w M) (tf_rm d1 mc1 ms1) mc1 ms1 n :=
  callB_of (ws' := tf_TB) n hts (tf_gin (tf_gw hL)) rfl rfl rfl (hts _ hL.2.2.2.2.2) (hts _ hl) ⟨hL.1, hL.2.1, hL.2.2.1⟩ ⟨by show d1 + 1 ≤ _; omega, by have := hL.2.2.2.1; show 8 + (_ + 11) + 32 * d1 ≤ _; omega⟩
theorem tf_stk {ad : Nat → Nat} {st As rest : List Value} (h : st = As.reverse ++ rest) : st.map (tf_tv ad) = (As.map (tf_tv ad)).reverse ++ rest.map (tf_tv ad) := by
  rw [h, List.map_append, List.map_reverse]
theorem tf_kS {x : tf_X} {cc : ByteArray} {own : String} {nL d mc ms : Nat} {ini : Bool} (hx : tf_C x cc own nL d mc ms ini) {F : tf_F} {T : tf_T} (hFT : 1 ≤ d ∧ tf_okF own F ∧ tf_okT cc T) {G G' : tf_G} {S S' : tf_Sg} {kc ks mc1 ms1 d1 : Nat} {M : tf_M} {As rest : List Value} {r : Option Value} {idx nx tg pc : Nat} {v : Int32} {ls : List (Option Value)} {st : List Value}
    (hF : tf_Fn M d1 mc1 ms1 G S As G' S' r) (hat : tf_at pc T = some (.invokestatic idx, nx, tg, v)) (hL : tf_okS own idx As.length M) (hst : st = As.reverse ++ rest) (hrm : tf_room rest = true) (hk : d1 + 1 ≤ d ∧ kc + mc1 ≤ mc ∧ ks + ms1 ≤ ms ∧ ls.length = nL) (hv1 : tf_vs G.length G'.length (ls.filterMap id)) (hv2 : tf_vs G.length G'.length rest)
    (kk : tf_K x (kc + mc1) (ks + ms1) G' S' nx ls (r.toList ++ rest)) : tf_K x kc ks G S pc ls st := by
  obtain ⟨p, l, e, R, s, m, args, below, meth, c0, A, Q, D, ad0, G0, S0⟩ := x
  obtain ⟨hxx, hb, hml, hown, hts, hfr, hlo, hmc, hms, hA, hini⟩ := hx
  intro ad H locs lsC hI hl
  obtain ⟨hdg, rfl⟩ := tf_dc (tf_dec hFT.2.2 hat) 2 rfl
  refine tf_back hI hA hl hv1 hv2 (G' := G') (S' := S') (r := r) (mc1 := mc1) (ms1 := ms1) ?_ kk
  exact va_runS (As := As.map (tf_tv ad)) (n := As.length) ⟨hxx, hb, hml, hown, hts⟩ (hF l D ad H.size) ⟨tf_cb hts hL.1 hL.2.1 hk.1 ⟨hfr, hlo⟩, hts _ hL.2.2⟩ ⟨tf_blind, fun U hU hW => ⟨rfl, tf_in_wd hI hA hU hW⟩⟩ rfl (List.length_map _) (hl.2.1.trans hk.2.2.2) (tf_stk hst) (by have := tf_room_ok (ad := ad) hrm; show 2 * 0 + _ ≤ 8; omega) hdg ⟨by omega, by omega⟩
theorem tf_kN {x : tf_X} {cc : ByteArray} {own : String} {nL d mc ms : Nat} {ini : Bool} (hx : tf_C x cc own nL d mc ms ini) {F : tf_F} {T : tf_T} (hFT : 1 ≤ d ∧ tf_okF own F ∧ tf_okT cc T) {G G' : tf_G} {S S' : tf_Sg} {kc ks mc1 ms1 d1 : Nat} {M : tf_M} {As rest : List Value} {r : Option Value} {idx nx tg pc : Nat} {v : Int32} {ls : List (Option Value)} {st : List Value}
    (hF : tf_Fn M d1 mc1 ms1 G S As G' S' r) (hat : tf_at pc T = some (.invokestatic idx, nx, tg, v)) (hL : tf_okN own idx As.length M) (hst : st = As.reverse ++ rest) (hrm : tf_room rest = true) (hk : d1 + 1 ≤ d ∧ kc + mc1 ≤ mc ∧ ks + ms1 ≤ ms ∧ ls.length = nL) (hv1 : tf_vs G.length G'.length (ls.filterMap id)) (hv2 : tf_vs G.length G'.length rest)
    (kk : tf_K x (kc + mc1) (ks + ms1) G' S' nx ls (r.toList ++ rest)) : tf_K x kc ks G S pc ls st := by
  obtain ⟨p, l, e, R, s, m, args, below, meth, c0, A, Q, D, ad0, G0, S0⟩ := x
  obtain ⟨hxx, hb, hml, hown, hts, hfr, hlo, hmc, hms, hA, hini⟩ := hx
  intro ad H locs lsC hI hl
  obtain ⟨hdg, rfl⟩ := tf_dc (tf_dec hFT.2.2 hat) 2 rfl
  refine tf_back hI hA hl hv1 hv2 (G' := G') (S' := S') (r := r) (mc1 := mc1) (ms1 := ms1) ?_ kk
  have hN := hI.2.2.2.2.2.1.2.2.2.1 _ hL.2.1
  rw [← hL.2.2.1] at hN
  have h13 := hL.1.2.2.2.1
  exact va_runSN (As := As.map (tf_tv ad)) (n := As.length) ⟨hxx, hb, hml, hown, hts⟩ (hF l D ad H.size) ⟨va_cnB (ws' := tf_TB) As.length hts (tf_gin (tf_gw hL.1)) rfl rfl rfl hN (hts _ hL.1.2.2.2.2.2) ⟨hL.1.1, hL.1.2.1, hL.1.2.2.1⟩ ⟨by show d1 + 1 ≤ _; omega, by show 8 + (_ + 11) + 32 * d1 ≤ _; omega⟩, hts _ hL.2.2.2, trivial⟩ ⟨tf_blind, fun U hU hW => ⟨rfl, tf_in_wd hI hA hU hW⟩⟩ rfl (List.length_map _) (hl.2.1.trans hk.2.2.2) (tf_stk hst) (by have := tf_room_ok (ad := ad) hrm; show 2 * 0 + _ ≤ 8; omega) hdg ⟨by omega, by omega⟩
theorem tf_kV {x : tf_X} {cc : ByteArray} {own : String} {nL d mc ms : Nat} {ini : Bool} (hx : tf_C x cc own nL d mc ms ini) {F : tf_F} {T : tf_T} (hFT : 1 ≤ d ∧ tf_okF own F ∧ tf_okT cc T) {G G' : tf_G} {S S' : tf_Sg} {kc ks mc1 ms1 d1 ci : Nat} {M : tf_M} {o : Nat} {As rest : List Value} {r : Option Value} {idx nx tg pc : Nat} {v : Int32} {ls : List (Option Value)} {st : List Value}
    (hF : tf_Fn M d1 mc1 ms1 G S (.ref o :: As) G' S' r) (hat : tf_at pc T = some (.invokevirtual idx, nx, tg, v)) (hL : tf_okV own idx As.length ci M) (htg : tf_tg G o = ci) (hst : st = As.reverse ++ .ref o :: rest) (hrm : tf_room rest = true) (hk : d1 + 1 ≤ d ∧ kc + mc1 ≤ mc ∧ ks + ms1 ≤ ms ∧ ls.length = nL) (hv1 : tf_vs G.length G'.length (ls.filterMap id)) (hv2 : tf_vs G.length G'.length rest)
    (kk : tf_K x (kc + mc1) (ks + ms1) G' S' nx ls (r.toList ++ rest)) : tf_K x kc ks G S pc ls st := by
  obtain ⟨p, l, e, R, s, m, args, below, meth, c0, A, Q, D, ad0, G0, S0⟩ := x
  obtain ⟨hxx, hb, hml, hown, hts, hfr, hlo, hmc, hms, hA, hini⟩ := hx
  intro ad H locs lsC hI hl
  obtain ⟨hdg, rfl⟩ := tf_dc (tf_dec hFT.2.2 hat) 2 rfl
  refine tf_back hI hA hl hv1 hv2 (G' := G') (S' := S') (r := r) (mc1 := mc1) (ms1 := ms1) ?_ kk
  obtain ⟨hL1, hL2, hL3, hL4, hc9, hcn⟩ := hL
  obtain ⟨g1, g2⟩ := tf_4 hI.2.2.2.2.2.2 (show tf_tg G o < 14 by omega)
  have hat2 := tf_ws_at (D := D) (ad := ad) (G := G) (S := S) g1 g2
  rw [tf_cell_o (show tf_tg G o < 9 by omega), show (tf_e G o).1 = ci from htg] at hat2
  have hrecv := va_recv hI.2.2.1 hI.2.1 (tf_hcl ci hc9) hat2
  simp only [hcn] at hrecv
  exact va_runV (As := As.map (tf_tv ad)) (n := As.length) (C := M.1.cls) (b := ad o) ⟨hxx, hb, hml, hown, hts⟩ (hF l D ad H.size) ⟨tf_cb hts hL1 hL2 hk.1 ⟨hfr, hlo⟩, hts _ hL3, hts _ hL4⟩ ⟨tf_blind, hrecv, fun U hU hW => ⟨rfl, tf_in_wd hI hA hU hW⟩⟩ rfl (List.length_map _) (hl.2.1.trans hk.2.2.2) (tf_stk hst) (by have := tf_room_ok (ad := ad) hrm; show 2 * 0 + _ ≤ 8; omega) hdg ⟨by omega, by omega⟩
theorem tf_kI {x : tf_X} {cc : ByteArray} {own : String} {nL d mc ms : Nat} {ini : Bool} (hx : tf_C x cc own nL d mc ms ini) {F : tf_F} {T : tf_T} (hFT : 1 ≤ d ∧ tf_okF own F ∧ tf_okT cc T) {G G' : tf_G} {S S' : tf_Sg} {kc ks mc1 ms1 d1 : Nat} {M : tf_M} {o : Nat} {As rest : List Value} {r : Option Value} {idx nx tg pc : Nat} {v : Int32} {ls : List (Option Value)} {st : List Value}
    (hF : tf_Fn M d1 mc1 ms1 G S (.ref o :: As) G' S' r) (hat : tf_at pc T = some (.invokespecial idx, nx, tg, v)) (hL : tf_okI own idx As.length M) (hst : st = As.reverse ++ .ref o :: rest) (hrm : tf_room rest = true) (hk : d1 + 1 ≤ d ∧ kc + mc1 ≤ mc ∧ ks + ms1 ≤ ms ∧ ls.length = nL) (hv1 : tf_vs G.length G'.length (ls.filterMap id)) (hv2 : tf_vs G.length G'.length rest)
    (kk : tf_K x (kc + mc1) (ks + ms1) G' S' nx ls (r.toList ++ rest)) : tf_K x kc ks G S pc ls st := by
  obtain ⟨p, l, e, R, s, m, args, below, meth, c0, A, Q, D, ad0, G0, S0⟩ := x
  obtain ⟨hxx, hb, hml, hown, hts, hfr, hlo, hmc, hms, hA, hini⟩ := hx
  intro ad H locs lsC hI hl
  obtain ⟨hdg, rfl⟩ := tf_dc (tf_dec hFT.2.2 hat) 2 rfl
  refine tf_back hI hA hl hv1 hv2 (G' := G') (S' := S') (r := r) (mc1 := mc1) (ms1 := ms1) ?_ kk
  obtain ⟨hL1, hL2, hL3, hL4, hL5⟩ := hL
  have hcb := tf_cb (R := R) (mc1 := mc1) (ms1 := ms1) hts hL1 hL2 hk.1 ⟨hfr, hlo⟩
  rw [hL5] at hcb
  exact va_runI (As := As.map (tf_tv ad)) (n := As.length) (b := ad o) ⟨hxx, hb, hml, hown, hts⟩ (hF l D ad H.size) ⟨hcb, hL4, hts _ hL3⟩ ⟨tf_blind, fun U hU hW => ⟨rfl, tf_in_wd hI hA hU hW⟩⟩ rfl (List.length_map _) (hl.2.1.trans hk.2.2.2) (tf_stk hst) (by have := tf_room_ok (ad := ad) hrm; show 2 * 0 + _ ≤ 8; omega) hdg ⟨by omega, by omega⟩
