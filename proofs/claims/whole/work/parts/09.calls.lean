/-! ROWS OF THE PURE MACHINE: calls -/
theorem Tg_good {w : Cond} (h : w ∈ Tg) : (w.onTables && w.keeps) = true ∨ ∃ ty, w = .arrayClass ty := good_of_word (List.mem_filter.mp h).2
def en (nL : Nat) (args : List Value) : List (Option Value) := args.map some ++ List.replicate (nL - args.length) none
theorem lv_args1 {vs : List Value} (hc : ∀ v ∈ vs, v.category = 1) : ∀ (n i : Nat) (v : Value), vs[i]? = some v → (n + i, v) ∈ lv_args n vs := by
  induction vs with
  | nil => intro n i v h; simp at h
  | cons w ws ih =>
    intro n i v h
    have hw : w.category = 1 := hc w List.mem_cons_self
    cases i with
    | zero => simp at h; subst h; exact List.mem_cons_self
    | succ i =>
      simp at h
      have := ih (fun v hv => hc v (List.mem_cons_of_mem _ hv)) (n + 1) i v h
      refine List.mem_cons_of_mem _ ?_
      rw [if_neg (by rw [hw]; decide)]
      rw [show n + (i + 1) = n + 1 + i by omega]
      exact this
theorem lg_len {vs : List Value} (hc : ∀ v ∈ vs, v.category = 1) : (lg_sl vs).length = vs.length := by
  induction vs with
  | nil => rfl
  | cons w ws ih =>
    have hw : w.category = 1 := hc w List.mem_cons_self
    have := ih (fun v hv => hc v (List.mem_cons_of_mem _ hv))
    simp only [lg_sl, List.flatMap_cons] at this ⊢
    rw [if_neg (by rw [hw]; decide), List.length_append, this]
    simp; omega
theorem PL_entry {n nL : Nat} {ad : Nat → Nat} {args : List Value} (hc : ∀ v ∈ args, v.category = 1) (ho : okS n args) (hl : args.length ≤ nL) :
    PL n ad nL (en nL args) ((lg_sl (args.map (cv ad)) ++ List.replicate (nL - (lg_sl (args.map (cv ad))).length) Slot.unset).toArray) := by
  have hc' : ∀ v ∈ args.map (cv ad), v.category = 1 := by
    intro v hv
    obtain ⟨w, hw, rfl⟩ := List.mem_map.mp hv
    rw [cv_cat]; exact hc w hw
  have he := lv_entry (args.map (cv ad)) (n := nL) (by rw [lg_len hc', List.length_map]; exact hl)
  refine ⟨he.1, he.2.1, fun i v hv => ?_⟩
  unfold en at hv
  by_cases hi : i < args.length
  · rw [List.getElem?_append_left (by simp; exact hi), List.getElem?_map] at hv
    have ha : args[i]? = some v := by
      cases e : args[i]? with
      | none => rw [e] at hv; cases hv
      | some w => rw [e] at hv; cases hv; rfl
    have hm := List.mem_of_getElem? ha
    refine ⟨hc v hm, ho v hm, ?_⟩
    have := he.2.2 (0 + i, cv ad v) (lv_args1 hc' 0 i (cv ad v) (by rw [List.getElem?_map, ha]; rfl))
    simpa using this
  · rw [List.getElem?_append_right (by simp; omega)] at hv
    have := List.mem_of_getElem? hv
    rw [List.mem_replicate] at this
    cases this.2
/-- what a method's end may be, for a caller -/
def rok (M : MR) (r : Option Value) : Prop := (r = none ∧ M.2.2.2.1 = none) ∨ (∃ v ty, r = some (.int v) ∧ M.2.2.2.1 = some ty) ∨ ∃ q ty, r = some (va_rf q) ∧ M.2.2.2.1 = some ty ∧ ((∃ n, ty = .object n) ∨ ∃ t, ty = .array t)
def Pk (X : Nat × (Nat → Int32)) (cy : Nat → ClassId) (D : va_G) (ad : Nat → Nat) (h : PH) (sz : Nat) (U : State) : Prop := U.heap.size = sz ∧ va_P D vwCl (wd cy ad h) U.heap ∧ va_K D vwCl (ctys cy) U ∧ va_D (fun _ => True) (wd cy ad h) ∧ KC X ad (va_A (wd cy ad h) sz) U U.heap
def Qk (cy : Nat → ClassId) (D : va_G) (ad : Nat → Nat) (h : PH) (sz : Nat) (r : Option Value) (h1 : PH) : Array Value → State → Outcome → State → Prop := fun _ st o t =>
  (∃ ad' : Nat → Nat, (∀ a, okr (hn h) a → ad' a = ad a) ∧ o = .returned (r.map (cv ad')) ∧ va_P D vwCl (wd cy ad' h1) t.heap ∧ va_D (va_A (wd cy ad h) sz) (wd cy ad' h1) ∧ okh h1 ∧ ∀ v, r = some v → okv (hn h1) v) ∧ va_F (va_A (wd cy ad h) sz) st t
abbrev wsM (M : MR) : List Cond := Jvm.Cond.code M.2.2.2.2 M.2.1 M.2.2.1 M.2.2.2.1 :: Tg
theorem good_ws {M M2 : MR} {n : Nat} (hm : Mok M2 n) : GoodIn Tg (wsM M2) := by
  intro w hw
  rcases List.mem_cons.mp hw with e | e
  · subst e; exact ⟨hm.2.2.2.1, Tg_good hm.2.2.2.1⟩
  · exact ⟨e, Tg_good e⟩
theorem Met_of {X : Nat × (Nat → Int32)} {l : Ln} {M : MR} {n d L : Nat} {args : List Value} {h h1 : PH} {r : Option Value} (hm : Mok M n) (hR : Rt X M d L 0 (en M.2.2.1 args) [] h r h1) (hr : rok M r) (hc9 : ∀ v ∈ args, v.category = 1) (hoa : okS (hn h) args) (hl : args.length ≤ M.2.2.1) (ho : okh h) (cy : Nat → ClassId) (D : va_G) (ad : Nat → Nat) (sz : Nat) :
    Met l.1 M.2.2.2.2 (wsM M) ({ frames := d, cells := hc h1 - hc h, slots := hs h1 - hs h, locals := L }) (va_Pc (args.map (cv ad)) (Pk X cy D ad h sz)) (Qk cy D ad h sz r h1) (hc h1 - hc h) (hs h1 - hs h) (va_A (wd cy ad h) sz) := by
  refine Met.ofW (cc := M.2.1) (maxL := M.2.2.1) (ret := M.2.2.2.1) (by rw [hm.1]; exact hm.2.1) rfl ?_
  intro p e s m args9 below meth c s₁ B hml hv
  obtain ⟨rfl, hsz, hP, hK, hD0, hKC⟩ := hv
  have hts := atoms_spec (ws := wsM M) B.pre
  have hown : s.vm.findClass M.1 = some m.cls := by rw [← hm.1]; exact findClass_of_methodNamed B.named
  subst hsz
  have hD := hD0.self (sz := s.heap.size)
  have hlocks : meth.locks = false := B.notSynchronized
  have hC : Cx X M cy D ad (va_A (wd cy ad h) s.heap.size) p s m (args.map (cv ad)).toArray meth c :=
    ⟨B.exec, B.bytes, hml, hown, fun w hw => hts w (List.mem_cons_of_mem _ hw), hlocks, B.returns, (name_of_methodNamed B.named B.method).1, hK, fun q hq => Or.inr hq, hKC⟩
  rw [lg_entry_eq]
  obtain ⟨k1, k2, k3, k4⟩ := hR
  have hw := k4 p l e (headSpec (wsM M) ({ frames := d, cells := hc h1 - hc h, slots := hs h1 - hs h, locals := L })).room s m (args.map (cv ad)).toArray below meth c cy D (va_A (wd cy ad h) s.heap.size) ad s.heap [] _ (hc h) (hs h) (MQ below (Qk cy D ad h s.heap.size r h1) (args.map (cv ad)).toArray s (hc h1 - hc h) (hs h1 - hs h) (va_A (wd cy ad h) s.heap.size)) hC
    (Nat.le_refl _) (Nat.le_refl _) (by show hc h1 ≤ hc h + (hc h1 - hc h); omega) (by show hs h1 ≤ hs h + (hs h1 - hs h); omega) (Nat.le_refl _) (Nat.le_refl _) ⟨hP, hD, va_S.rf, ho⟩ (PL_entry hc9 hoa hl) (fun v hv => by cases hv) ?_
  · rw [Nat.sub_self, Nat.sub_self] at hw
    exact hw
  · intro ad' H' locs' cls' pcE g1 g2 g3 g4 g5
    have hq : ∀ (t : State), t.heap = H' → Qk cy D ad h s.heap.size r h1 (args.map (cv ad)).toArray s (.returned (r.map (cv ad'))) t := fun t ht =>
      ⟨⟨ad', g1, rfl, by rw [ht]; exact g2.1, g2.2.1, g2.2.2.2, g4⟩, g2.2.2.1.F ht⟩
    rcases hr with ⟨rfl, e2⟩ | ⟨v, ty, rfl, e2⟩ | ⟨q, ty, rfl, e2, e3⟩
    · exact W.vret hC.1 hC.2.1 (hC.2.2.2.2.2.2.1.trans e2) (fun t ht hW => hq t ht) g2.2.2.1.2.2 g3
    · exact W.zret hC.1 hC.2.1 (hC.2.2.2.2.2.2.1.trans e2) (g3.2 ty e2) (fun t ht hW => hq t ht) g2.2.2.1.2.2 g3.1
    · cases q with
      | none => exact W.aret hC.1 hC.2.1 (hC.2.2.2.2.2.2.1.trans e2) e3 (Or.inl rfl) (fun t ht hW => hq t ht) g2.2.2.1.2.2 g3
      | some b => exact W.aret hC.1 hC.2.1 (hC.2.2.2.2.2.2.1.trans e2) e3 (Or.inr ⟨ad' b, rfl⟩) (fun t ht hW => hq t ht) g2.2.2.1.2.2 g3
theorem Pk_blind {X : Nat × (Nat → Int32)} {cy : Nat → ClassId} {D : va_G} {ad : Nat → Nat} {h : PH} {sz : Nat} {av : List Value} : FrameBlind (va_Pc av (Pk X cy D ad h sz)) := by
  intro a U g mk q
  obtain ⟨q0, q1, q2, q3, q4, q5⟩ := q
  exact ⟨q0, q1, q2, va_K.moved (u := U) (U := U.calling g mk a) (Vm.Alike.refl U.vm) q3, q4, KC.same (s := U) rfl q5⟩
theorem Pk_of {X : Nat × (Nat → Int32)} {M : MR} {cy : Nat → ClassId} {D : va_G} {ad : Nat → Nat} {h : PH} {A : Nat → Prop} {p : Program} {s : State} {m : MethodId} {args : Array Value} {meth : Method} {c : Code} {H : Heap} {locs : List Loc} (hC : Cx X M cy D ad A p s m args meth c) (hR : Rp cy D ad h A s.heap H locs) :
    (∀ q, va_A (wd cy ad h) H.size q → A q) ∧ ∀ U : State, U.heap = H → s.WarmedH U.vm → Pk X cy D ad h H.size U := by
  have hA : ∀ q, va_A (wd cy ad h) H.size q → A q := by
    intro q hq
    rcases hq with ⟨k, e, hk⟩ | hq
    · exact hR.2.1.2 k _ hk
    · exact hC.2.2.2.2.2.2.2.2.2.1 q (Nat.le_trans hR.2.2.1.1 hq)
  refine ⟨hA, fun U hU hW => ⟨by rw [hU], by rw [hU]; exact hR.1, va_K.moved hW.alike hC.2.2.2.2.2.2.2.2.1, hR.2.1.weaken (fun _ _ _ _ => trivial), ?_⟩⟩
  rw [hU]
  exact KC.warm hW (KC.narrow (KC.kept hC.2.2.2.2.2.2.2.2.2.2 hR.2.2.1.1 hR.2.2.1.2.1) hA)
/-- a call, by any of the roads: w gives the machine's own run of it -/
theorem Rt.call {X : Nat × (Nat → Int32)} {M : MR} {d L pc : Nat} {ls : List (Option Value)} {st rest : List Value} {h h1 hE : PH} {r r' : Option Value} (m1 : hn h ≤ hn h1 ∧ hc h ≤ hc h1 ∧ hs h ≤ hs h1) (hrest : okS (hn h) st → okS (hn h) rest)
    (w : ∀ (p : Program) (l : Ln) (e : Env) (R : Room) (s : State) (m : MethodId) (args : Array Value) (below : List Frame) (meth : Method) (c : Code) (H : Heap) (locs : List Loc) (cells slots : Nat) (ad : Nat → Nat) (cls : Array Slot) (cy : Nat → ClassId) (D : va_G) (A : Nat → Prop),
      Cx X M cy D ad A p s m args meth c → d ≤ R.frames → L ≤ R.locals → Rp cy D ad h A s.heap H locs → cls.size = M.2.2.1 → okS (hn h) st → cells + (hc h1 - hc h) ≤ R.cells ∧ slots + (hs h1 - hs h) ≤ R.slots →
      ∃ a9, va_Run p l.1 e R s m args below meth c H locs cells slots (hc h1 - hc h) (hs h1 - hs h) (F0 m pc cls (st.map (cv ad))) (rest.map (cv ad)) (Qk cy D ad h H.size r h1 a9) (va_A (wd cy ad h) H.size))
    (k : Rt X M d L (pc + 3) ls (r.toList ++ rest) h1 r' hE) : Rt X M d L pc ls st h r' hE := by
  obtain ⟨k1, k2, k3, k4⟩ := k
  refine ⟨by omega, by omega, by omega, ?_⟩
  intro p l e R s m args below meth c cy D A ad H locs cls c0 s0 Qf hC hd hL b1 b2 b3 b4 hRp hP hS hEnd
  obtain ⟨a9, hw⟩ := w p l e R s m args below meth c H locs (hc h - c0) (hs h - s0) ad cls cy D A hC hd hL hRp hP.1 hS ⟨by omega, by omega⟩
  have hA := (Pk_of hC hRp).1
  intro T hT X
  obtain ⟨v, st₀, t, T', Lo, h0, X', hLo, e1, e2, ⟨⟨ad', g1, g2, g3, g4, g5, g6⟩, hz, hk⟩, stp⟩ := hw T hT X
  cases g2
  rw [h0] at hz hk
  have hrst := hrest hS
  have hR' : Rp cy D ad' h1 A s.heap T'.heap (locs ++ Lo) := by
    refine ⟨by rw [e1]; exact g3, g4.weaken (fun _ q _ hq => hA _ hq), ⟨Nat.le_trans hRp.2.2.1.1 (by rw [e1]; exact hz), fun q q1 q2 => ?_, fun q hq => ?_⟩, g5⟩
    · rw [e1, hk q (Nat.lt_of_lt_of_le q1 hRp.2.2.1.1) (fun z => q2 (hA q z))]
      exact hRp.2.2.1.2.1 q q1 q2
    · rcases List.mem_append.mp hq with x | x
      · exact hRp.2.2.1.2.2 q x
      · exact hA _ (hLo q x)
  have hP' : PL (hn h1) ad' M.2.2.1 ls cls := ⟨hP.1, hP.2.1, fun i v hv => ⟨(hP.2.2 i v hv).1, (hP.2.2 i v hv).2.1.mono m1.1, by rw [cv_ext g1 (hP.2.2 i v hv).2.1]; exact (hP.2.2 i v hv).2.2⟩⟩
  have hS' : okS (hn h1) (r.toList ++ rest) := by
    intro v hv
    rcases List.mem_append.mp hv with x | x
    · exact g6 v (by cases r with
        | none => cases x
        | some w => simp at x; rw [x])
    · exact (hrst v x).mono m1.1
  have hw2 := k4 p l e R s m args below meth c cy D A ad' T'.heap (locs ++ Lo) cls c0 s0 Qf (hC.ext g1) hd hL b1 b2 (Nat.le_trans b3 m1.2.1) (Nat.le_trans b4 m1.2.2) hR' hP' hS'
    (fun ad2 H2 locs2 cls2 pcE x1 x2 x3 x4 x5 => hEnd ad2 H2 locs2 cls2 pcE (fun a ha => (x1 a (ha.mono m1.1)).trans (g1 a ha)) x2 x3 x4 x5)
  have y1 : hc h1 - c0 = hc h - c0 + (hc h1 - hc h) := by omega
  have y2 : hs h1 - s0 = hs h - s0 + (hs h1 - hs h) := by omega
  have y3 : (r.toList ++ rest).map (cv ad') = (r.map (cv ad')).toList ++ rest.map (cv ad) := by
    rw [List.map_append]
    congr 1
    · cases r <;> rfl
    · exact List.map_congr_left (fun v hv => cv_ext g1 (hrst v hv))
  rw [y1, y2, y3] at hw2
  obtain ⟨t2, a1, b1⟩ := hw2 T' rfl X'
  exact ⟨t2, stp t2 a1, b1⟩
section CR
variable {X : Nat × (Nat → Int32)} {M M2 : MR} {d L pc n idx d2 L2 : Nat} {ls : List (Option Value)} {st : List Value} {h : PH} {Q : Option Value → PH → Prop}
theorem w_callV {T2 : u_T} {N2 a : Nat} {As rest : List Value} (hd : decode M.2.1 pc = .ok (.invokevirtual idx, 3)) (hm : Mok M2 n) (hl : LM M.1 idx M2.2.2.2.2) (hi : Jvm.Cond.instanceMethod M2.2.2.2.2 ∈ Tg) (hsl : Jvm.Cond.selects M2.1 M2.2.2.2.2 M2.2.2.2.2 ∈ Tg) (hini : Jvm.Cond.initialized M2.1 ∈ Tg) (hcl : vwCl[kd a]? = some (M2.1, T2, N2)) (hka : kd a < 11) (ha : a < hn h)
    (hst : st = As.reverse ++ .ref a :: rest) (hn9 : As.length = n) (hc9 : ∀ v ∈ As, v.category = 1) (hle : As.length + 1 ≤ M2.2.2.1) (hrs : (rest.map fun v => v.category).sum ≤ 8) (hd2 : d2 + 1 ≤ d) (hL2 : 8 + (M2.2.2.1 + 11) + L2 ≤ L)
    (kk : WP X M2 d2 L2 0 (en M2.2.2.1 (.ref a :: As)) [] h (fun r h1 => rok M2 r ∧ WP X M d L (pc + 3) ls (r.toList ++ rest) h1 Q)) : WP X M d L pc ls st h Q := by
  obtain ⟨r, h1, hRt, hr, r', hE, hRt2, hQ⟩ := kk
  refine ⟨r', hE, ?_, hQ⟩
  have hoR : okS (hn h) st → okS (hn h) rest := fun ho v hv => ho v (by rw [hst]; exact List.mem_append_right _ (List.mem_cons_of_mem _ hv))
  have hoA : okS (hn h) st → okS (hn h) (.ref a :: As) := fun ho v hv => ho v (by
    rw [hst]
    rcases List.mem_cons.mp hv with e | e
    · exact List.mem_append_right _ (by rw [e]; exact List.mem_cons_self)
    · exact List.mem_append_left _ (List.mem_reverse.mpr e))
  refine Rt.call (r := r) (h1 := h1) ⟨hRt.1, hRt.2.1, hRt.2.2.1⟩ hoR (fun p l e R s m args below meth c H locs cells slots ad cls cy D A hC hdR hLR hRp hcs hS hf => ?_) hRt2
  have hMet := Met_of (l := l) hm hRt hr (fun v hv => by
    rcases List.mem_cons.mp hv with e | e
    · rw [e]; rfl
    · exact hc9 v e) (hoA hS) hle hRp.2.2.2 cy D ad H.size
  have hpre := (Pk_of hC hRp).2
  have hts := hC.2.2.2.2.1
  have hrc := va_recv hC.2.2.2.2.2.2.2.2.1 hRp.1 (ci := kd a) (q0 := a) hcl (by rw [wd_get ha, ce_o rfl hka])
  have hstk : (F0 m pc cls (st.map (cv ad))).stack = (As.map (cv ad)).reverse ++ .ref (ad a) :: rest.map (cv ad) := by
    show st.map (cv ad) = _
    rw [hst, List.map_append, List.map_reverse]; rfl
  have hrs' : 2 * (F0 m pc cls (st.map (cv ad))).monitorRoom + ((rest.map (cv ad)).map fun v => v.category).sum ≤ 8 := lv_room (by rw [List.map_map, show ((fun v : Value => v.category) ∘ cv ad) = fun v => v.category from funext (fun v => cv_cat ad v)]; exact hrs)
  have hPreV : PreV s H M2.1 (ad a) (va_Pc ((Value.ref a :: As).map (cv ad)) (Pk X cy D ad h H.size)) (As.map (cv ad)) := ⟨Pk_blind, hrc, fun U hU hW => ⟨rfl, hpre U hU hW⟩⟩
  refine ⟨(Value.ref (ad a) :: As.map (cv ad)).toArray, ?_⟩
  have hcls : M2.2.2.2.2.cls = M2.1 := hm.1
  rcases hl with hl | ⟨host, hl⟩
  · refine va_runV (As := As.map (cv ad)) (C := M2.1) (bytes := M2.2.1) (maxL := M2.2.2.1) (ret := M2.2.2.2.1) (nL := M.2.2.1) (n := n) (index := idx) (own := M.1) (Ts := Tg) ⟨hC.1, hC.2.1, hC.2.2.1, hC.2.2.2.1, hts⟩ hMet ?_ hPreV rfl (by rw [List.length_map]; exact hn9) hcs hstk hrs' hd hf
    exact ⟨callB_of n hts (good_ws (M := M) hm) rfl rfl rfl (by rw [hcls]; exact hts _ hini) (hts _ hl) (by rw [hcls]; exact hm.2.2.1) ⟨Nat.le_trans hd2 hdR, Nat.le_trans hL2 hLR⟩, hts _ hi, hts _ hsl⟩
  · refine va_runVN (As := As.map (cv ad)) (C := M2.1) (host := host) (bytes := M2.2.1) (maxL := M2.2.2.1) (ret := M2.2.2.2.1) (nL := M.2.2.1) (n := n) (index := idx) (own := M.1) (Ts := Tg) ⟨hC.1, hC.2.1, hC.2.2.1, hC.2.2.2.1, hts⟩ hMet ?_ hPreV rfl (by rw [List.length_map]; exact hn9) hcs hstk hrs' hd hf
    exact ⟨va_cnB n hts (good_ws (M := M) hm) rfl rfl rfl (hC.2.2.2.2.2.2.2.2.2.2.1 _ hl) (by rw [hcls]; exact hts _ hini) (by rw [hcls]; exact hm.2.2.1) ⟨Nat.le_trans hd2 hdR, Nat.le_trans hL2 hLR⟩, hts _ hi, hts _ hsl⟩
theorem w_callS {As rest : List Value} (hd : decode M.2.1 pc = .ok (.invokestatic idx, 3)) (hm : Mok M2 n) (hl : LM M.1 idx M2.2.2.2.2) (hi : Jvm.Cond.static M2.2.2.2.2 ∈ Tg) (hini : Jvm.Cond.initialized M2.1 ∈ Tg)
    (hst : st = As.reverse ++ rest) (hn9 : As.length = n) (hc9 : ∀ v ∈ As, v.category = 1) (hle : As.length ≤ M2.2.2.1) (hrs : (rest.map fun v => v.category).sum ≤ 8) (hd2 : d2 + 1 ≤ d) (hL2 : 8 + (M2.2.2.1 + 11) + L2 ≤ L)
    (kk : WP X M2 d2 L2 0 (en M2.2.2.1 As) [] h (fun r h1 => rok M2 r ∧ WP X M d L (pc + 3) ls (r.toList ++ rest) h1 Q)) : WP X M d L pc ls st h Q := by
  obtain ⟨r, h1, hRt, hr, r', hE, hRt2, hQ⟩ := kk
  refine ⟨r', hE, ?_, hQ⟩
  have hoR : okS (hn h) st → okS (hn h) rest := fun ho v hv => ho v (by rw [hst]; exact List.mem_append_right _ hv)
  have hoA : okS (hn h) st → okS (hn h) As := fun ho v hv => ho v (by rw [hst]; exact List.mem_append_left _ (List.mem_reverse.mpr hv))
  refine Rt.call (r := r) (h1 := h1) ⟨hRt.1, hRt.2.1, hRt.2.2.1⟩ hoR (fun p l e R s m args below meth c H locs cells slots ad cls cy D A hC hdR hLR hRp hcs hS hf => ?_) hRt2
  have hMet := Met_of (l := l) hm hRt hr hc9 (hoA hS) hle hRp.2.2.2 cy D ad H.size
  have hpre := (Pk_of hC hRp).2
  have hts := hC.2.2.2.2.1
  have hstk : (F0 m pc cls (st.map (cv ad))).stack = (As.map (cv ad)).reverse ++ rest.map (cv ad) := by
    show st.map (cv ad) = _
    rw [hst, List.map_append, List.map_reverse]
  have hrs' : 2 * (F0 m pc cls (st.map (cv ad))).monitorRoom + ((rest.map (cv ad)).map fun v => v.category).sum ≤ 8 := lv_room (by rw [List.map_map, show ((fun v : Value => v.category) ∘ cv ad) = fun v => v.category from funext (fun v => cv_cat ad v)]; exact hrs)
  have hPreS : PreS s H (va_Pc (As.map (cv ad)) (Pk X cy D ad h H.size)) (As.map (cv ad)) := ⟨Pk_blind, fun U hU hW => ⟨rfl, hpre U hU hW⟩⟩
  refine ⟨(As.map (cv ad)).toArray, ?_⟩
  have hcls : M2.2.2.2.2.cls = M2.1 := hm.1
  rcases hl with hl | ⟨host, hl⟩
  · refine va_runS (As := As.map (cv ad)) (bytes := M2.2.1) (maxL := M2.2.2.1) (ret := M2.2.2.2.1) (nL := M.2.2.1) (n := n) (index := idx) (own := M.1) (Ts := Tg) ⟨hC.1, hC.2.1, hC.2.2.1, hC.2.2.2.1, hts⟩ hMet ?_ hPreS rfl (by rw [List.length_map]; exact hn9) hcs hstk hrs' hd hf
    exact ⟨callB_of n hts (good_ws (M := M) hm) rfl rfl rfl (by rw [hcls]; exact hts _ hini) (hts _ hl) (by rw [hcls]; exact hm.2.2.1) ⟨Nat.le_trans hd2 hdR, Nat.le_trans hL2 hLR⟩, hts _ hi⟩
  · refine va_runSN (As := As.map (cv ad)) (host := host) (bytes := M2.2.1) (maxL := M2.2.2.1) (ret := M2.2.2.2.1) (nL := M.2.2.1) (n := n) (index := idx) (own := M.1) (Ts := Tg) ⟨hC.1, hC.2.1, hC.2.2.1, hC.2.2.2.1, hts⟩ hMet ?_ hPreS rfl (by rw [List.length_map]; exact hn9) hcs hstk hrs' hd hf
    exact ⟨va_cnB n hts (good_ws (M := M) hm) rfl rfl rfl (hC.2.2.2.2.2.2.2.2.2.2.1 _ hl) (by rw [hcls]; exact hts _ hini) (by rw [hcls]; exact hm.2.2.1) ⟨Nat.le_trans hd2 hdR, Nat.le_trans hL2 hLR⟩, hts _ hi, trivial⟩
theorem w_callI {a : Nat} {As rest : List Value} (hd : decode M.2.1 pc = .ok (.invokespecial idx, 3)) (hm : Mok M2 n) (hl : LM M.1 idx M2.2.2.2.2) (hi : Jvm.Cond.instanceMethod M2.2.2.2.2 ∈ Tg) (hini : Jvm.Cond.initialized M2.1 ∈ Tg) (hnm : M2.2.2.2.2.name = "<init>") (hret : M2.2.2.2.1 = none)
    (hst : st = As.reverse ++ .ref a :: rest) (hn9 : As.length = n) (hc9 : ∀ v ∈ As, v.category = 1) (hle : As.length + 1 ≤ M2.2.2.1) (hrs : (rest.map fun v => v.category).sum ≤ 8) (hd2 : d2 + 1 ≤ d) (hL2 : 8 + (M2.2.2.1 + 11) + L2 ≤ L)
    (kk : WP X M2 d2 L2 0 (en M2.2.2.1 (.ref a :: As)) [] h (fun r h1 => rok M2 r ∧ WP X M d L (pc + 3) ls (r.toList ++ rest) h1 Q)) : WP X M d L pc ls st h Q := by
  obtain ⟨r, h1, hRt, hr, r', hE, hRt2, hQ⟩ := kk
  refine ⟨r', hE, ?_, hQ⟩
  have hoR : okS (hn h) st → okS (hn h) rest := fun ho v hv => ho v (by rw [hst]; exact List.mem_append_right _ (List.mem_cons_of_mem _ hv))
  have hoA : okS (hn h) st → okS (hn h) (.ref a :: As) := fun ho v hv => ho v (by
    rw [hst]
    rcases List.mem_cons.mp hv with e | e
    · exact List.mem_append_right _ (by rw [e]; exact List.mem_cons_self)
    · exact List.mem_append_left _ (List.mem_reverse.mpr e))
  refine Rt.call (r := r) (h1 := h1) ⟨hRt.1, hRt.2.1, hRt.2.2.1⟩ hoR (fun p l e R s m args below meth c H locs cells slots ad cls cy D A hC hdR hLR hRp hcs hS hf => ?_) hRt2
  have hMet := Met_of (l := l) hm hRt hr (fun v hv => by
    rcases List.mem_cons.mp hv with e | e
    · rw [e]; rfl
    · exact hc9 v e) (hoA hS) hle hRp.2.2.2 cy D ad H.size
  have hpre := (Pk_of hC hRp).2
  have hts := hC.2.2.2.2.1
  have hstk : (F0 m pc cls (st.map (cv ad))).stack = (As.map (cv ad)).reverse ++ .ref (ad a) :: rest.map (cv ad) := by
    show st.map (cv ad) = _
    rw [hst, List.map_append, List.map_reverse]; rfl
  have hrs' : 2 * (F0 m pc cls (st.map (cv ad))).monitorRoom + ((rest.map (cv ad)).map fun v => v.category).sum ≤ 8 := lv_room (by rw [List.map_map, show ((fun v : Value => v.category) ∘ cv ad) = fun v => v.category from funext (fun v => cv_cat ad v)]; exact hrs)
  have hPreS : PreS s H (va_Pc ((Value.ref a :: As).map (cv ad)) (Pk X cy D ad h H.size)) (.ref (ad a) :: As.map (cv ad)) := ⟨Pk_blind, fun U hU hW => ⟨rfl, hpre U hU hW⟩⟩
  refine ⟨(Value.ref (ad a) :: As.map (cv ad)).toArray, ?_⟩
  have hcls : M2.2.2.2.2.cls = M2.1 := hm.1
  have hws : wsM M2 = Jvm.Cond.code M2.2.2.2.2 M2.2.1 M2.2.2.1 none :: Tg := by rw [← hret]
  rcases hl with hl | ⟨host, hl⟩
  · refine va_runI (As := As.map (cv ad)) (bytes := M2.2.1) (maxL := M2.2.2.1) (nL := M.2.2.1) (n := n) (index := idx) (own := M.1) (Ts := Tg) ⟨hC.1, hC.2.1, hC.2.2.1, hC.2.2.2.1, hts⟩ hMet ?_ hPreS rfl (by rw [List.length_map]; exact hn9) hcs hstk hrs' hd hf
    exact cwI n hts (good_ws (M := M) hm) hws rfl rfl (by rw [hcls]; exact hts _ hini) (hts _ hl) (hts _ hi) hnm (by rw [hcls]; exact hm.2.2.1) ⟨Nat.le_trans hd2 hdR, Nat.le_trans hL2 hLR⟩
  · refine va_runIN (As := As.map (cv ad)) (host := host) (bytes := M2.2.1) (maxL := M2.2.2.1) (nL := M.2.2.1) (n := n) (index := idx) (own := M.1) (Ts := Tg) ⟨hC.1, hC.2.1, hC.2.2.1, hC.2.2.2.1, hts⟩ hMet ?_ hPreS rfl (by rw [List.length_map]; exact hn9) hcs hstk hrs' hd hf
    exact ⟨va_cnB n hts (good_ws (M := M) hm) hws rfl rfl (hC.2.2.2.2.2.2.2.2.2.2.1 _ hl) (by rw [hcls]; exact hts _ hini) (by rw [hcls]; exact hm.2.2.1) ⟨Nat.le_trans hd2 hdR, Nat.le_trans hL2 hLR⟩, hnm, hts _ hi⟩
/-- Object's own constructor -/
theorem w_obj {a : Nat} (hd : decode M.2.1 pc = .ok (.invokespecial idx, 3)) (hw1 : Jvm.Cond.methodLink M.1 idx objectInit ∈ Tg) (hw2 : Jvm.Cond.instanceMethod objectInit ∈ Tg) (hw3 : Jvm.Cond.code objectInit ⟨#[0xb1]⟩ 1 none ∈ Tg) (hrs : (st.map fun v => v.category).sum ≤ 8) (hd2 : 1 ≤ d) (hL2 : 20 ≤ L)
    (kk : WP X M d L (pc + 3) ls st h Q) : WP X M d L pc ls (.ref a :: st) h Q := by
  obtain ⟨r, hE, ⟨k1, k2, k3, k4⟩, hQ⟩ := kk
  refine ⟨r, hE, ⟨k1, k2, k3, ?_⟩, hQ⟩
  intro p l e R s m args below meth c cy D A ad H locs cls c0 s0 Qf hC hd9 hL9 b1 b2 b3 b4 hRp hP hS hEnd
  have hts := hC.2.2.2.2.1
  have hrs' : 2 * (F0 m pc cls ((Value.ref a :: st).map (cv ad))).monitorRoom + ((st.map (cv ad)).map fun v => v.category).sum ≤ 8 := lv_room (by rw [List.map_map, show ((fun v : Value => v.category) ∘ cv ad) = fun v => v.category from funext (fun v => cv_cat ad v)]; exact hrs)
  refine W.objInit hC.1 hC.2.1 hC.2.2.2.1 (hts _ hw1) (hts _ hw2) (hts _ hw3) rfl (by rw [hC.2.2.1]; exact hP.1) rfl hd (Nat.le_trans hd2 hd9) (by omega) ?_
  exact k4 p l e R s m args below meth c cy D A ad H locs cls c0 s0 Qf hC hd9 hL9 b1 b2 b3 b4 hRp hP (okS.tl hS) hEnd
end CR
