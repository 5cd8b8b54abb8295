/-! a method from its entry to its end -/
def tf_entL : List Value → List (Option Value)
  | [] => []
  | .long x :: vs => some (.long x) :: none :: tf_entL vs
  | .double x :: vs => some (.double x) :: none :: tf_entL vs
  | v :: vs => some v :: tf_entL vs
def tf_ent (av : List Value) (n : Nat) : List (Option Value) := tf_entL av ++ List.replicate (n - (tf_entL av).length) none
theorem tf_entL_cons (v : Value) (vs : List Value) : tf_entL (v :: vs) = (if v.category = 2 then [some v, none] else [some v]) ++ tf_entL vs := by
  cases v <;> rfl
theorem tf_entL_len (ad : Nat → Nat) : ∀ av : List Value, (lg_sl (av.map (tf_tv ad))).length = (tf_entL av).length
  | [] => rfl
  | v :: vs => by
    rw [tf_entL_cons, List.map_cons]
    unfold lg_sl
    rw [List.flatMap_cons, List.length_append, List.length_append, tf_cat]
    have h := tf_entL_len ad vs
    unfold lg_sl at h
    rw [h]
    split <;> rfl
theorem tf_ent_in (ad : Nat → Nat) : ∀ (av : List Value) (k i : Nat) (v : Value), (tf_entL av)[i]? = some (some v) → (k + i, tf_tv ad v) ∈ lv_args k (av.map (tf_tv ad))
  | [], k, i, v, h => by simp [tf_entL] at h
  | w :: vs, k, i, v, h => by
    rw [tf_entL_cons] at h
    rw [List.map_cons]
    unfold lv_args
    rw [tf_cat]
    by_cases hc : w.category = 2
    · rw [if_pos hc] at h ⊢
      match i, h with
      | 0, h =>
        simp at h
        subst h
        exact List.mem_cons_self
      | 1, h => simp at h
      | i + 2, h =>
        have h2 : (tf_entL vs)[i]? = some (some v) := by simpa using h
        have := tf_ent_in ad vs (k + 2) i v h2
        refine List.mem_cons_of_mem _ ?_
        rw [show k + (i + 2) = k + 2 + i by omega]
        exact this
    · rw [if_neg hc] at h ⊢
      match i, h with
      | 0, h =>
        simp at h
        subst h
        exact List.mem_cons_self
      | i + 1, h =>
        have h2 : (tf_entL vs)[i]? = some (some v) := by simpa using h
        have := tf_ent_in ad vs (k + 1) i v h2
        refine List.mem_cons_of_mem _ ?_
        rw [show k + (i + 1) = k + 1 + i by omega]
        exact this
def tf_ri : Option Value → Instr
  | some _ => .ireturn
  | none => .return_
/-- the end of a method: what it answers, what it leaves -/
def tf_Rt (x : tf_X) (cc : ByteArray) (mc ms : Nat) (G' : tf_G) (S' : tf_Sg) (r : Option Value) : Prop :=
  ∀ (ad : Nat → Nat) (H : Heap) (locs : List Loc) (lsC : Array Slot) (pc : Nat), tf_In x ad G' S' H locs → decode cc pc = .ok (tf_ri r, 1) → tf_W x H locs mc ms pc lsC (r.toList.map (tf_tv ad))
theorem tf_ret {x : tf_X} {cc : ByteArray} {mc ms : Nat} {F : tf_F} {T : tf_T} {d : Nat} {own : String} (hFT : 1 ≤ d ∧ tf_okF own F ∧ tf_okT cc T) {G G' : tf_G} {S S' : tf_Sg} {r : Option Value} {kc ks pc nx tg : Nat} {v : Int32} {ls : List (Option Value)} {st : List Value}
    (hR : tf_Rt x cc mc ms G' S' r) (hat : tf_at pc T = some (tf_ri r, nx, tg, v)) (hk : kc ≤ mc ∧ ks ≤ ms) (hG : G = G') (hS : S = S') (hst : st = r.toList) : tf_K x kc ks G S pc ls st := by
  subst hG
  subst hS
  subst hst
  obtain ⟨p, l, e, R, s, m, args, below, meth, c0, A, Q, D, ad0, G0, S0⟩ := x
  intro ad H locs lsC hI hl
  have hdg : decode cc pc = .ok (tf_ri r, 1) := by
    cases r with
    | none => exact (tf_dc (tf_dec hFT.2.2 hat) 0 rfl).1
    | some w => exact (tf_dc (tf_dec hFT.2.2 hat) 0 rfl).1
  exact W.widen hk.1 hk.2 (hR ad H locs lsC pc hI hdg)
/-- what a method of a return type may answer -/
def tf_rok : Option FieldType → Option Value → Prop
  | none, none => True
  | some .int, some (.int _) => True
  | some .boolean, some (.int v) => v = 0 ∨ v = 1
  | _, _ => False
theorem tf_rok_of {t : Option FieldType} {r : Option Value} (h : tf_rok t r) : (t = none ∧ r = none) ∨ (∃ v, t = some .int ∧ r = some (.int v)) ∨ (∃ v, (v = 0 ∨ v = 1) ∧ t = some .boolean ∧ r = some (.int v)) := by
  unfold tf_rok at h
  split at h
  · exact Or.inl ⟨rfl, rfl⟩
  · exact Or.inr (Or.inl ⟨_, rfl, rfl⟩)
  · exact Or.inr (Or.inr ⟨_, h, rfl, rfl⟩)
  · exact h.elim
theorem tf_Fn_of {M : tf_M} {own : String} {d mc ms : Nat} {G G' : tf_G} {S S' : tf_Sg} {av : List Value} {r : Option Value} (ini : Bool) (hy : plainName M.1.cls = true ∧ M.1.cls = own ∧ (ini = true → M.1.name = "<init>")) (hlen : (tf_entL av).length ≤ M.2.2.1) (hrok : tf_rok M.2.2.2 r)
    (body : ∀ x, tf_C x M.2.1 own M.2.2.1 d mc ms ini → tf_Rt x M.2.1 mc ms G' S' r → tf_K x 0 0 G S 0 (tf_ent av M.2.2.1) []) : tf_Fn M d mc ms G S av G' S' r := by
  intro l D ad sz
  refine Met.ofW (cc := M.2.1) (maxL := M.2.2.1) (ret := M.2.2.2) (ws' := tf_TB) hy.1 rfl ?_
  intro p e s m args below meth c s₁ B hml hv
  obtain ⟨rfl, hsz, hP, hK, hD0, hRo, hro⟩ := hv
  subst hsz
  have hts0 := atoms_spec (ws := tf_w M) B.pre
  have hts : ∀ w ∈ tf_TB, w.before (av.map (tf_tv ad)).toArray s = true := fun w hw => hts0 w (List.mem_cons_of_mem _ hw)
  have hown : s.vm.findClass own = some m.cls := by rw [← hy.2.1]; exact findClass_of_methodNamed B.named
  have hlocks := B.notSynchronized
  have hin : ini = true → meth.name = "<init>" := fun h => by rw [(name_of_methodNamed B.named B.method).1]; exact hy.2.2 h
  have hA : ∀ q, s.heap.size ≤ q → va_A (tf_ws D ad G S) s.heap.size q := fun q h => Or.inr h
  let x : tf_X := (p, l, e, tf_rm d mc ms, s, m, (av.map (tf_tv ad)).toArray, below, meth, c, va_A (tf_ws D ad G S) s.heap.size, MQ below (fun _ st o t => (∃ ad' : Nat → Nat, (∀ i, i < G.length ∨ G'.length ≤ i → ad' i = ad i) ∧ o = .returned (r.map (tf_tv ad')) ∧ va_P D.1 vwCl (tf_ws D ad' G' S') t.heap ∧ va_D (va_A (tf_ws D ad G S) s.heap.size) (tf_ws D ad' G' S') ∧ tf_ro G S G' S') ∧ va_F (va_A (tf_ws D ad G S) s.heap.size) st t) (av.map (tf_tv ad)).toArray s mc ms (va_A (tf_ws D ad G S) s.heap.size), D, ad, G, S)
  have hC : tf_C x M.2.1 own M.2.2.1 d mc ms ini := ⟨B.exec, B.bytes, hml, hown, hts, Nat.le_refl _, Nat.le_refl _, Nat.le_refl _, Nat.le_refl _, hA, hin⟩
  have hR : tf_Rt x M.2.1 mc ms G' S' r := by
    intro ad1 H locs lsC pc hI hdg
    obtain ⟨hag, hP1, hK1, hD1, hS1, hRo1, hro1⟩ := hI
    have hq : ∀ t : State, t.heap = H → (∃ ad' : Nat → Nat, (∀ i, i < G.length ∨ G'.length ≤ i → ad' i = ad i) ∧ Outcome.returned (r.map (tf_tv ad1)) = .returned (r.map (tf_tv ad')) ∧ va_P D.1 vwCl (tf_ws D ad' G' S') t.heap ∧ va_D (va_A (tf_ws D ad G S) s.heap.size) (tf_ws D ad' G' S') ∧ tf_ro G S G' S') ∧ va_F (va_A (tf_ws D ad G S) s.heap.size) s t := fun t ht => ⟨⟨ad1, hag, rfl, by rw [ht]; exact hP1, hD1, hro1⟩, hS1.F ht⟩
    have hbr := B.returns
    rcases tf_rok_of hrok with ⟨h1, h2⟩ | ⟨v, h1, h2⟩ | ⟨v, hv, h1, h2⟩
    · subst h2
      rw [h1] at hbr
      exact W.vret B.exec B.bytes hbr (fun t ht _ => hq t ht) hS1.2.2 hdg
    · subst h2
      rw [h1] at hbr
      exact W.iret B.exec B.bytes hbr (fun t ht _ => hq t ht) hS1.2.2 hdg
    · subst h2
      rw [h1] at hbr
      exact W.zret B.exec B.bytes hbr (tf_nar01 hv) (fun t ht _ => hq t ht) hS1.2.2 hdg
  have hW := body x hC hR ad s.heap [] ((lg_sl (av.map (tf_tv ad)) ++ List.replicate (M.2.2.1 - (lg_sl (av.map (tf_tv ad))).length) Slot.unset).toArray) ⟨fun _ _ => rfl, hP, hK, hD0, va_S.rf, hRo, hro⟩ (by
    have hle : (lg_sl (av.map (tf_tv ad))).length ≤ M.2.2.1 := by rw [tf_entL_len]; exact hlen
    have hh := lv_entry (av.map (tf_tv ad)) hle
    have hl2 : (tf_ent av M.2.2.1).length = M.2.2.1 := by unfold tf_ent; rw [List.length_append, List.length_replicate]; omega
    refine ⟨rfl, by rw [hl2]; exact hh.1, hh.2.1, fun i v hiv => ?_⟩
    have hi : i < (tf_entL av).length := by
      apply Nat.not_le.mp
      intro hle2
      unfold tf_ent at hiv
      rw [List.getElem?_append_right hle2] at hiv
      rw [List.getElem?_replicate] at hiv
      split at hiv <;> cases hiv
    unfold tf_ent at hiv
    rw [List.getElem?_append_left hi] at hiv
    have := tf_ent_in ad av 0 i v hiv
    rw [Nat.zero_add] at this
    exact hh.2.2 _ this)
  rw [lg_entry_eq]
  exact hW
/-! what is made: an object, a row of numbers, a row of references; a reference written -/
def tf_new (S : tf_Sg) (n : Nat) : tf_Sg := fun a j => if a = n then 0 else S a j
def tf_upa (ad : Nat → Nat) (n q : Nat) : Nat → Nat := fun i => if i = n then q else ad i
theorem tf_e_app {G : tf_G} {z : Nat × Nat × List Nat} {o : Nat} (h : o < G.length) : tf_e (G ++ [z]) o = tf_e G o := by
  unfold tf_e
  rw [List.getD_eq_getElem?_getD, List.getD_eq_getElem?_getD, List.getElem?_append_left h]
theorem tf_e_app_n {G : tf_G} {z : Nat × Nat × List Nat} : tf_e (G ++ [z]) G.length = z := by
  unfold tf_e
  rw [List.getD_eq_getElem?_getD, List.getElem?_append_right (Nat.le_refl _), Nat.sub_self]
  rfl
theorem tf_cell_ad {D : tf_D} {ad ad' : Nat → Nat} {S S' : tf_Sg} {o : Nat} {e : Nat × Nat × List Nat} (hS : S' o = S o) (h : ∀ k, ad' (e.2.2.getD k 0) = ad (e.2.2.getD k 0)) : tf_cell D ad' S' o e = tf_cell D ad S o e := by
  unfold tf_cell tf_fs tf_ra
  rw [hS]
  simp only [tf_rv, h]
theorem tf_ws_push {D : tf_D} {ad : Nat → Nat} {G : tf_G} {S : tf_Sg} {z : Nat × Nat × List Nat} {q : Nat} {e : va_E} (h4 : 4 ≤ G.length) (hw : tf_wf G) (hz : tf_cell D (tf_upa ad G.length q) (tf_new S G.length) G.length z = e) : tf_ws D ad G S ++ [(q, e)] = tf_ws D (tf_upa ad G.length q) (G ++ [z]) (tf_new S G.length) := by
  apply List.ext_getElem?
  intro k
  have hlen : (tf_ws D ad G S).length = G.length - 4 := by unfold tf_ws; rw [List.length_map, List.length_range]
  by_cases hk : k < G.length - 4
  · rw [List.getElem?_append_left (by omega)]
    unfold tf_ws
    rw [List.getElem?_map, List.getElem?_map, List.getElem?_range hk, List.getElem?_range (by rw [List.length_append]; simp; omega)]
    simp only [Option.map_some, Option.some.injEq, Prod.mk.injEq]
    rw [tf_e_app (show k + 4 < G.length by omega)]
    refine ⟨by unfold tf_upa; rw [if_neg (by omega)], (tf_cell_ad ?_ ?_).symm⟩
    · funext j
      unfold tf_new
      rw [if_neg (by omega)]
    · intro j
      have := hw (k + 4) j
      unfold tf_rf at this
      unfold tf_upa
      rw [if_neg (by omega)]
  · by_cases hk2 : k = G.length - 4
    · subst hk2
      rw [List.getElem?_append_right (by omega), hlen, Nat.sub_self]
      unfold tf_ws
      rw [List.getElem?_map, List.getElem?_range (by rw [List.length_append]; simp; omega)]
      simp only [List.getElem?_cons_zero, Option.map_some, Nat.sub_add_cancel h4, tf_e_app_n, hz]
      unfold tf_upa
      rw [if_pos rfl]
    · rw [List.getElem?_eq_none (by rw [List.length_append, hlen]; simp; omega)]
      unfold tf_ws
      rw [List.getElem?_eq_none (by rw [List.length_map, List.length_range, List.length_append]; simp; omega)]
theorem tf_ro_push {G0 : tf_G} {S0 : tf_Sg} {G : tf_G} {S : tf_Sg} {z : Nat × Nat × List Nat} (hr : tf_ro G0 S0 G S) (hz : z.1 ≠ 14) (hw : tf_wf (G ++ [z])) : tf_ro G0 S0 (G ++ [z]) (tf_new S G.length) := by
  have h4 := Nat.le_trans hr.2.2.2.1 hr.2.2.1
  have key : ∀ i, i ≠ G.length → tf_e (G ++ [z]) i = tf_e G i := by
    intro i hi
    by_cases hlt : i < G.length
    · exact tf_e_app hlt
    · unfold tf_e
      rw [List.getD_eq_getElem?_getD, List.getD_eq_getElem?_getD, List.getElem?_eq_none (by rw [List.length_append]; simp; omega), List.getElem?_eq_none (by omega)]
  refine ⟨fun i hi => ?_, fun i hi => ?_, by rw [List.length_append]; have := hr.2.2.1; omega, hr.2.2.2.1, hw⟩
  · have hne : i ≠ G.length := by
      intro e
      subst e
      unfold tf_tg at hi
      rw [tf_e_app_n] at hi
      exact hz hi
    unfold tf_tg at hi
    rw [key i hne] at hi
    obtain ⟨h1, h2, h3⟩ := hr.1 i hi
    refine ⟨h1, by unfold tf_ln at h2 ⊢; rw [key i hne]; exact h2, ?_⟩
    rw [← h3]
    funext j
    unfold tf_new
    rw [if_neg hne]
  · unfold tf_tg
    rw [key i (by omega)]
    exact hr.2.1 i hi
theorem tf_hl_up {lsC : Array Slot} {ad : Nat → Nat} {n q : Nat} {ls : List (Option Value)} (hv : tf_vs n (n + 1) (ls.filterMap id)) (h : tf_hl lsC ls.length ad ls) : tf_hl lsC ls.length (tf_upa ad n q) ls :=
  tf_hl_ad (n := n) (n' := n + 1) (fun i hi => by unfold tf_upa; rw [if_neg (by omega)]) hv h
theorem tf_st_up {ad : Nat → Nat} {n q : Nat} {st : List Value} (hv : tf_vs n (n + 1) st) : st.map (tf_tv (tf_upa ad n q)) = st.map (tf_tv ad) :=
  List.map_congr_left fun v h => tf_tv_same (n := n) (n' := n + 1) (fun i hi => by unfold tf_upa; rw [if_neg (by omega)]) hv h
theorem tf_tys_one {D : tf_D} {s : State} {cl : List vw_C} {k : Nat} {cA : ClassId} {t : FieldType} (hK : va_K D.1 cl (tf_tys D ++ [(cA, t)]) s) (hk : (tf_tys D)[k]? = some (D.2 (k + 9), t)) : cA = D.2 (k + 9) := by
  have hl : k < (tf_tys D).length := (List.getElem?_eq_some_iff.mp hk).1
  have h1 := (hK.2 k (D.2 (k + 9), t) (by rw [List.getElem?_append_left hl]; exact hk)).2
  have h2 := (hK.2 (tf_tys D).length (cA, t) (by rw [List.getElem?_append_right (Nat.le_refl _), Nat.sub_self]; rfl)).2
  have key : ∀ c, va_RA s c t → s.vm.findClass ("[" ++ t.toString) = some c := by
    intro c h
    cases t with
    | object C => obtain ⟨_, _, _, _, _, h4⟩ := h; exact h4
    | _ => exact h
  have e1 := key _ h1
  have e2 := key _ h2
  rw [e1] at e2
  exact (Option.some.inj e2).symm
theorem tf_wf_push {G : tf_G} {z : Nat × Nat × List Nat} (hw : tf_wf G) (hz : ∀ k, z.2.2.getD k 0 ≤ G.length) : tf_wf (G ++ [z]) := by
  intro o k
  rw [List.length_append]
  show _ < G.length + 1
  by_cases h : o < G.length
  · have := hw o k
    unfold tf_rf at this ⊢
    rw [tf_e_app h]
    omega
  · by_cases h2 : o = G.length
    · subst h2
      unfold tf_rf
      rw [tf_e_app_n]
      have := hz k
      omega
    · have hn : (G ++ [z])[o]? = none := List.getElem?_eq_none (by rw [List.length_append]; simp; omega)
      unfold tf_rf tf_e
      simp [List.getD_eq_getElem?_getD, hn]
/-- new: an object of a class, all zero -/
def tf_z0 (ci : Nat) : Nat × Nat × List Nat := (ci, 0, List.replicate (tf_cl ci).2.2 0)
theorem tf_rep (n k : Nat) : (List.replicate n 0).getD k 0 = 0 := by
  rw [List.getD_eq_getElem?_getD, List.getElem?_replicate]
  split <;> rfl
theorem tf_dflt : ∀ ci, ci < 9 → ∀ k, k < (tf_cl ci).2.2 → defaultValue (tf_ty ci k) = (if tf_isr ci k = true then Value.null else .int 0) := by decide +kernel
theorem tf_knew {x : tf_X} {cc : ByteArray} {own : String} {nL d mc ms : Nat} {ini : Bool} (hx : tf_C x cc own nL d mc ms ini) {F : tf_F} {T : tf_T} (hFT : 1 ≤ d ∧ tf_okF own F ∧ tf_okT cc T) {G : tf_G} {S : tf_Sg} {kc ks idx nx tg pc : Nat} {v : Int32} {ls : List (Option Value)} {st : List Value} (ci : Nat)
    (hat : tf_at pc T = some (.new idx, nx, tg, v)) (hL : ci < 9 ∧ Cond.classLink own idx (tf_cl ci).1 ∈ tf_TB ∧ Cond.instantiable (tf_cl ci).1 (tf_cl ci).2.2 ∈ tf_TB ∧ Cond.initialized (tf_cl ci).1 ∈ tf_TB) (hk : kc + 1 ≤ mc ∧ ks + (tf_cl ci).2.2 ≤ ms) (hv1 : tf_vs G.length (G.length + 1) (ls.filterMap id)) (hv2 : tf_vs G.length (G.length + 1) st)
    (kk : tf_K x (kc + 1) (ks + (tf_cl ci).2.2) (G ++ [tf_z0 ci]) (tf_new S G.length) nx ls (.ref G.length :: st)) : tf_K x kc ks G S pc ls st := by
  obtain ⟨p, l, e, R, s, m, args, below, meth, c0, A, Q, D, ad0, G0, S0⟩ := x
  obtain ⟨hxx, hb, hml, hown, hts, hfr, hlo, hmc, hms, hA, hini⟩ := hx
  intro ad H locs lsC hI hl
  obtain ⟨hdg, rfl⟩ := tf_dc (tf_dec hFT.2.2 hat) 2 rfl
  obtain ⟨hag, hP, hK, hD, hS, hRo, hro⟩ := hI
  have hw := hro.2.2.2.2
  have h4 : 4 ≤ G.length := Nat.le_trans hro.2.2.2.1 hro.2.2.1
  refine va_new (D := D.1) (ci := ci) (fs := tf_fs (tf_upa ad G.length 0) (tf_new S G.length) G.length (tf_z0 ci)) hxx hb hts (tf_hin ci hL.1) (tf_ty ci) (tf_hty ci hL.1) hown (hts _ hL.2.1) (hts _ hL.2.2.1) (hts _ hL.2.2.2) hK hP hD hS hA (tf_hcl ci hL.1) (fun j hj => ?_) (by omega) (by omega) hdg (fun q H1 hP1 hD1 hS1 => ?_)
  · rw [tf_dflt ci hL.1 j hj]
    unfold vp_V
    rw [List.getD_eq_getElem?_getD, tf_fs_at (e := tf_z0 ci) hj]
    show _ = (if tf_isr ci j = true then _ else _)
    split
    · simp only [tf_z0, tf_rep, tf_rv, if_true]
    · simp [tf_new]
  · have he : tf_cell D (tf_upa ad G.length q) (tf_new S G.length) G.length (tf_z0 ci) = .inr (ci, tf_fs (tf_upa ad G.length 0) (tf_new S G.length) G.length (tf_z0 ci)) := by
      rw [tf_cell_o (show (tf_z0 ci).1 < 9 from hL.1)]
      unfold tf_fs
      simp only [tf_z0, tf_rep, tf_rv, if_true]
    rw [tf_ws_push h4 hw he] at hP1 hD1
    have hw2 : tf_wf (G ++ [tf_z0 ci]) := tf_wf_push hw (fun k => by simp only [tf_z0, tf_rep]; exact Nat.zero_le _)
    have k2 := kk (tf_upa ad G.length q) H1 locs lsC ⟨fun i hi => ?_, hP1, hK, hD1, hS1, hRo, tf_ro_push hro (by show ci ≠ 14; omega) hw2⟩ (tf_hl_up hv1 hl)
    · rw [List.map_cons, tf_st_up hv2] at k2
      have hq : tf_tv (tf_upa ad G.length q) (.ref G.length) = .ref q := by
        show Value.ref _ = _
        unfold tf_upa
        rw [if_pos rfl]
      rw [hq] at k2
      exact k2
    · rw [List.length_append] at hi
      have hi2 : i ≠ G.length := by
        have := hro.2.2.1
        rcases hi with hi | hi
        · omega
        · simp at hi; omega
      unfold tf_upa
      rw [if_neg hi2]
      refine hag i ?_
      simp at hi
      omega
theorem tf_hag {ad ad0 : Nat → Nat} {G0 G : tf_G} {z : Nat × Nat × List Nat} {q : Nat} (hle : G0.length ≤ G.length) (hag : ∀ i, i < G0.length ∨ G.length ≤ i → ad i = ad0 i) : ∀ i, i < G0.length ∨ (G ++ [z]).length ≤ i → tf_upa ad G.length q i = ad0 i := by
  intro i hi
  rw [List.length_append] at hi
  simp at hi
  unfold tf_upa
  rw [if_neg (by omega)]
  exact hag i (by omega)
theorem tf_upa_n {ad : Nat → Nat} {n q : Nat} : tf_tv (tf_upa ad n q) (.ref n) = .ref q := by
  show Value.ref _ = _
  unfold tf_upa
  rw [if_pos rfl]
/-- newarray: a row of numbers, all zero -/
theorem tf_ac9 : Cond.arrayClass .int ∈ tf_TB := by decide +kernel
theorem tf_ac10 : Cond.arrayClass .boolean ∈ tf_TB := by decide +kernel
theorem tf_he9 (D : tf_D) (ad : Nat → Nat) (G : tf_G) (S : tf_Sg) (N q : Nat) : tf_cell D (tf_upa ad G.length q) (tf_new S G.length) G.length (9, N, []) = .inl (D.2 9, N, .inl (fun _ => 0)) := by
  have h : tf_new S G.length G.length = fun _ => 0 := by funext j; simp [tf_new]
  rw [tf_cell_i (Or.inl rfl), h]
theorem tf_he10 (D : tf_D) (ad : Nat → Nat) (G : tf_G) (S : tf_Sg) (N q : Nat) : tf_cell D (tf_upa ad G.length q) (tf_new S G.length) G.length (10, N, []) = .inl (D.2 10, N, .inl (fun _ => 0)) := by
  have h : tf_new S G.length G.length = fun _ => 0 := by funext j; simp [tf_new]
  rw [tf_cell_i (Or.inr rfl), h]
theorem tf_knewi {x : tf_X} {cc : ByteArray} {own : String} {nL d mc ms : Nat} {ini : Bool} (hx : tf_C x cc own nL d mc ms ini) {F : tf_F} {T : tf_T} (hFT : 1 ≤ d ∧ tf_okF own F ∧ tf_okT cc T) {G : tf_G} {S : tf_Sg} {kc ks nx tg pc : Nat} {v : Int32} {ls : List (Option Value)} {st : List Value} {i : Int32} (N : Nat)
    (hat : tf_at pc T = some (.newarray .int, nx, tg, v)) (hi : ¬ i < 0 ∧ i.toNatClampNeg = N ∧ N ≤ 1000) (hk : kc + 1 ≤ mc ∧ ks + N ≤ ms) (hv1 : tf_vs G.length (G.length + 1) (ls.filterMap id)) (hv2 : tf_vs G.length (G.length + 1) st)
    (kk : tf_K x (kc + 1) (ks + N) (G ++ [(9, N, [])]) (tf_new S G.length) nx ls (.ref G.length :: st)) : tf_K x kc ks G S pc ls (.int i :: st) := by
  obtain ⟨p, l, e, R, s, m, args, below, meth, c0, A, Q, D, ad0, G0, S0⟩ := x
  obtain ⟨hxx, hb, hml, hown, hts, hfr, hlo, hmc, hms, hA, hini⟩ := hx
  intro ad H locs lsC hI hl
  obtain ⟨hdg, rfl⟩ := tf_dc (tf_dec hFT.2.2 hat) 1 rfl
  obtain ⟨hag, hP, hK, hD, hS, hRo, hro⟩ := hI
  have h4 : 4 ≤ G.length := Nat.le_trans hro.2.2.2.1 hro.2.2.1
  have hAc : (Cond.arrayClass .int).before args s = true := hts _ tf_ac9
  have hby : N * componentBytes .int ≤ 536870912 := by show N * 4 ≤ _; omega
  refine va_newa (D := D.1) (atype := .int) (ty := .int) (a0 := (N, .inl (fun _ => 0))) hxx hb hAc rfl hK hP hD hS hA (fun cA => vp_cell_i cA N (fun _ => 0)) hi.1 hi.2.1 hby (by omega) (by omega) hdg (fun q cA H1 hK1 hP1 hD1 hS1 => ?_)
  have hcA : cA = D.2 9 := tf_tys_one (k := 0) hK1 rfl
  subst hcA
  rw [tf_ws_push h4 hro.2.2.2.2 (tf_he9 D ad G S N q)] at hP1 hD1
  have k2 := kk (tf_upa ad G.length q) H1 locs lsC ⟨tf_hag hro.2.2.1 hag, hP1, hK, hD1, hS1, hRo, tf_ro_push hro (by show 9 ≠ 14; decide) (tf_wf_push hro.2.2.2.2 (fun k => by show ([] : List Nat).getD k 0 ≤ _; simp))⟩ (tf_hl_up hv1 hl)
  rw [List.map_cons, tf_st_up hv2, tf_upa_n] at k2
  exact k2
theorem tf_knewz {x : tf_X} {cc : ByteArray} {own : String} {nL d mc ms : Nat} {ini : Bool} (hx : tf_C x cc own nL d mc ms ini) {F : tf_F} {T : tf_T} (hFT : 1 ≤ d ∧ tf_okF own F ∧ tf_okT cc T) {G : tf_G} {S : tf_Sg} {kc ks nx tg pc : Nat} {v : Int32} {ls : List (Option Value)} {st : List Value} {i : Int32} (N : Nat)
    (hat : tf_at pc T = some (.newarray .boolean, nx, tg, v)) (hi : ¬ i < 0 ∧ i.toNatClampNeg = N ∧ N ≤ 1000) (hk : kc + 1 ≤ mc ∧ ks + N ≤ ms) (hv1 : tf_vs G.length (G.length + 1) (ls.filterMap id)) (hv2 : tf_vs G.length (G.length + 1) st)
    (kk : tf_K x (kc + 1) (ks + N) (G ++ [(10, N, [])]) (tf_new S G.length) nx ls (.ref G.length :: st)) : tf_K x kc ks G S pc ls (.int i :: st) := by
  obtain ⟨p, l, e, R, s, m, args, below, meth, c0, A, Q, D, ad0, G0, S0⟩ := x
  obtain ⟨hxx, hb, hml, hown, hts, hfr, hlo, hmc, hms, hA, hini⟩ := hx
  intro ad H locs lsC hI hl
  obtain ⟨hdg, rfl⟩ := tf_dc (tf_dec hFT.2.2 hat) 1 rfl
  obtain ⟨hag, hP, hK, hD, hS, hRo, hro⟩ := hI
  have h4 : 4 ≤ G.length := Nat.le_trans hro.2.2.2.1 hro.2.2.1
  have hAc : (Cond.arrayClass .boolean).before args s = true := hts _ tf_ac10
  have hby : N * componentBytes .boolean ≤ 536870912 := by show N * 1 ≤ _; omega
  refine va_newa (D := D.1) (atype := .boolean) (ty := .boolean) (a0 := (N, .inl (fun _ => 0))) hxx hb hAc rfl hK hP hD hS hA (fun cA => vp_cell_i cA N (fun _ => 0)) hi.1 hi.2.1 hby (by omega) (by omega) hdg (fun q cA H1 hK1 hP1 hD1 hS1 => ?_)
  have hcA : cA = D.2 10 := tf_tys_one (k := 1) hK1 rfl
  subst hcA
  rw [tf_ws_push h4 hro.2.2.2.2 (tf_he10 D ad G S N q)] at hP1 hD1
  have k2 := kk (tf_upa ad G.length q) H1 locs lsC ⟨tf_hag hro.2.2.1 hag, hP1, hK, hD1, hS1, hRo, tf_ro_push hro (by show 10 ≠ 14; decide) (tf_wf_push hro.2.2.2.2 (fun k => by show ([] : List Nat).getD k 0 ≤ _; simp))⟩ (tf_hl_up hv1 hl)
  rw [List.map_cons, tf_st_up hv2, tf_upa_n] at k2
  exact k2
/-- anewarray: a row of references, all null -/
def tf_aC : Nat → String
  | 2 => RX0
  | 3 => RX1
  | _ => RX5
theorem tf_knewq {x : tf_X} {cc : ByteArray} {own : String} {nL d mc ms : Nat} {ini : Bool} (hx : tf_C x cc own nL d mc ms ini) {F : tf_F} {T : tf_T} (hFT : 1 ≤ d ∧ tf_okF own F ∧ tf_okT cc T) {G : tf_G} {S : tf_Sg} {kc ks nx tg pc idx : Nat} {v : Int32} {ls : List (Option Value)} {st : List Value} {i : Int32} (k N : Nat)
    (hat : tf_at pc T = some (.anewarray idx, nx, tg, v)) (hL : Cond.classLink own idx (tf_aC k) ∈ tf_TB ∧ (k = 2 ∨ k = 3 ∨ k = 4)) (hi : ¬ i < 0 ∧ i.toNatClampNeg = N ∧ N ≤ 1000) (hk : kc + 1 ≤ mc ∧ ks + N ≤ ms) (hv1 : tf_vs G.length (G.length + 1) (ls.filterMap id)) (hv2 : tf_vs G.length (G.length + 1) st)
    (kk : tf_K x (kc + 1) (ks + N) (G ++ [(k + 9, N, List.replicate N 0)]) (tf_new S G.length) nx ls (.ref G.length :: st)) : tf_K x kc ks G S pc ls (.int i :: st) := by
  obtain ⟨p, l, e, R, s, m, args, below, meth, c0, A, Q, D, ad0, G0, S0⟩ := x
  obtain ⟨hxx, hb, hml, hown, hts, hfr, hlo, hmc, hms, hA, hini⟩ := hx
  intro ad H locs lsC hI hl
  obtain ⟨hdg, rfl⟩ := tf_dc (tf_dec hFT.2.2 hat) 2 rfl
  obtain ⟨hag, hP, hK, hD, hS, hRo, hro⟩ := hI
  have h4 : 4 ≤ G.length := Nat.le_trans hro.2.2.2.1 hro.2.2.1
  have hAO : va_AO (tf_aC k) s := hRo.2.2.2.2 _ (by rcases hL.2 with rfl | rfl | rfl <;> simp [tf_aC])
  have hty : (tf_tys D)[k]? = some (D.2 (k + 9), .object (tf_aC k)) := by rcases hL.2 with rfl | rfl | rfl <;> rfl
  refine va_newq (D := D.1) (C := tf_aC k) hxx hb hown (hts _ hL.1) hAO hK hP hD hS hA hi.1 hi.2.1 (by omega) (by omega) (by omega) hdg (fun q cA H1 hK1 hP1 hD1 hS1 => ?_)
  have hcA := tf_tys_one (k := k) hK1 hty
  subst hcA
  have he : tf_cell D (tf_upa ad G.length q) (tf_new S G.length) G.length (k + 9, N, List.replicate N 0) = .inl (D.2 (k + 9), N, .inr (.inr (.inr (.inr (fun _ => none))))) := by
    rw [tf_cell_r (by show 11 ≤ k + 9; rcases hL.2 with rfl | rfl | rfl <;> decide)]
    unfold tf_ra
    simp only [tf_rep, if_true]
  rw [tf_ws_push h4 hro.2.2.2.2 he] at hP1 hD1
  have k2 := kk (tf_upa ad G.length q) H1 locs lsC ⟨tf_hag hro.2.2.1 hag, hP1, hK, hD1, hS1, hRo, tf_ro_push hro (by show k + 9 ≠ 14; rcases hL.2 with rfl | rfl | rfl <;> decide) (tf_wf_push hro.2.2.2.2 (fun k => by simp only [tf_rep]; exact Nat.zero_le _))⟩ (tf_hl_up hv1 hl)
  rw [List.map_cons, tf_st_up hv2, tf_upa_n] at k2
  exact k2
/-- a reference is written: into a field of the object that is made, into a row -/
def tf_sr (G : tf_G) (o k v : Nat) : tf_G := G.set o ((tf_e G o).1, (tf_e G o).2.1, (tf_e G o).2.2.set k v)
theorem tf_e_set {G : tf_G} {o : Nat} {z : Nat × Nat × List Nat} (h : o < G.length) (i : Nat) : tf_e (G.set o z) i = if i = o then z else tf_e G i := by
  unfold tf_e
  rw [List.getD_eq_getElem?_getD, List.getD_eq_getElem?_getD]
  by_cases hi : i = o
  · subst hi
    rw [List.getElem?_set_self h, if_pos rfl]
    rfl
  · rw [List.getElem?_set_ne (Ne.symm hi), if_neg hi]
theorem tf_ws_sr {D : tf_D} {ad : Nat → Nat} {G : tf_G} {S : tf_Sg} {o : Nat} {z : Nat × Nat × List Nat} (h4 : 4 ≤ o) (hlt : o < G.length) : (tf_ws D ad G S).set (o - 4) (ad o, tf_cell D ad S o z) = tf_ws D ad (G.set o z) S := by
  apply List.ext_getElem?
  intro k
  have hlen : (tf_ws D ad G S).length = G.length - 4 := by unfold tf_ws; rw [List.length_map, List.length_range]
  by_cases hk : k = o - 4
  · subst hk
    rw [List.getElem?_set_self (by omega), tf_ws_at h4 (by rw [List.length_set]; exact hlt), tf_e_set hlt, if_pos rfl]
  · rw [List.getElem?_set_ne (Ne.symm hk)]
    unfold tf_ws
    rw [List.getElem?_map, List.getElem?_map, List.length_set]
    by_cases hr : k < G.length - 4
    · rw [List.getElem?_range hr]
      simp only [Option.map_some]
      rw [tf_e_set hlt, if_neg (by omega)]
    · rw [List.getElem?_eq_none (by simpa using hr)]
      rfl
theorem tf_ro_sr {G0 : tf_G} {S0 : tf_Sg} {G : tf_G} {S : tf_Sg} {o k v : Nat} (hr : tf_ro G0 S0 G S) (h : o < G.length) (hv : v < G.length) : tf_ro G0 S0 (tf_sr G o k v) S := by
  have ht : ∀ i, tf_tg (tf_sr G o k v) i = tf_tg G i ∧ tf_ln (tf_sr G o k v) i = tf_ln G i := by
    intro i
    unfold tf_tg tf_ln tf_sr
    rw [tf_e_set h]
    by_cases hi : i = o
    · rw [if_pos hi, hi]; exact ⟨rfl, rfl⟩
    · rw [if_neg hi]; exact ⟨rfl, rfl⟩
  have hl : (tf_sr G o k v).length = G.length := by unfold tf_sr; rw [List.length_set]
  refine ⟨fun i hi => ?_, fun i hi => by rw [(ht i).1]; exact hr.2.1 i hi, by rw [hl]; exact hr.2.2.1, hr.2.2.2.1, fun i j => ?_⟩
  · rw [(ht i).1] at hi
    rw [(ht i).2]
    exact hr.1 i hi
  · rw [hl]
    unfold tf_rf tf_sr
    rw [tf_e_set h]
    by_cases hi : i = o
    · rw [if_pos hi]
      show ((tf_e G o).2.2.set k v).getD j 0 < _
      rw [List.getD_eq_getElem?_getD]
      by_cases hj : j = k
      · subst hj
        by_cases hlt : j < (tf_e G o).2.2.length
        · rw [List.getElem?_set_self hlt]; exact hv
        · rw [List.getElem?_eq_none (by rw [List.length_set]; omega)]
          show 0 < _
          omega
      · rw [List.getElem?_set_ne (Ne.symm hj), ← List.getD_eq_getElem?_getD]
        exact hr.2.2.2.2 o j
    · rw [if_neg hi]
      exact hr.2.2.2.2 i j
theorem tf_hag_sr {ad ad0 : Nat → Nat} {G0 G : tf_G} {o k v : Nat} (hag : ∀ i, i < G0.length ∨ G.length ≤ i → ad i = ad0 i) : ∀ i, i < G0.length ∨ (tf_sr G o k v).length ≤ i → ad i = ad0 i := by
  unfold tf_sr
  rw [List.length_set]
  exact hag
theorem tf_fs_sr {ad : Nat → Nat} {S : tf_Sg} {o k v : Nat} {e : Nat × Nat × List Nat} (hk : k < (tf_cl e.1).2.2) (hr : tf_isr e.1 k = true) (hl : k < e.2.2.length) (hv : v ≠ 0) : (tf_fs ad S o e).set k (.ref (ad v)) = tf_fs ad S o (e.1, e.2.1, e.2.2.set k v) := by
  apply List.ext_getElem?
  intro j
  by_cases hj : j = k
  · subst hj
    rw [List.getElem?_set_self (by unfold tf_fs; rw [List.length_map, List.length_range]; exact hk), tf_fs_at (e := (e.1, e.2.1, e.2.2.set j v)) hk]
    simp only [hr, if_true]
    rw [List.getD_eq_getElem?_getD, List.getElem?_set_self hl]
    unfold tf_rv
    simp [hv]
  · rw [List.getElem?_set_ne (Ne.symm hj)]
    unfold tf_fs
    rw [List.getElem?_map, List.getElem?_map]
    by_cases hr : j < (tf_cl e.1).2.2
    · rw [List.getElem?_range hr]
      simp only [Option.map_some]
      rw [List.getD_eq_getElem?_getD, List.getD_eq_getElem?_getD, List.getElem?_set_ne (Ne.symm hj)]
    · rw [List.getElem?_eq_none (by simpa using hr)]
      rfl
theorem tf_fin : ∀ ci, ci < 9 → ∀ k, k < (tf_cl ci).2.2 → tf_isr ci k = true → ((tf_cl ci).2.1 k).2.2.2 = true ∧ ((tf_cl ci).2.1 k).1 = (tf_cl ci).1 := by decide +kernel
theorem tf_refty {t : FieldType} (h : t.isReference = true) (a : Nat) : narrow t (.ref a) = .ref a ∧ fits t (.ref a) = true := by
  cases t <;> first | (cases h; done) | exact ⟨rfl, rfl⟩
