/-! THE LAW'S HELPERS: a try around one call; it returns 0 and the answer lies in out[0], or the call throws and it returns 1 -/
theorem tgM {ws : List Cond} (ps : List Nat) (hp : ws = ps.filterMap (fun i => tables_1[i]?)) (hg : ws.all (fun w => goodWord w || isN w) = true) : ∀ w ∈ ws, w ∈ Tg ∨ w ∈ Tn := by
  intro w hw
  have h1 := List.all_eq_true.mp hg w hw
  rw [hp] at hw
  obtain ⟨i, -, hi⟩ := List.mem_filterMap.mp hw
  rw [Bool.or_eq_true] at h1
  rcases h1 with h1 | h1
  · exact Or.inl (tg i hi h1)
  · exact Or.inr (tgN i hi h1)
/-- at pcE of the method M stands 'throw new E("..")' -/
def TR (M : MR) (pcE : Nat) (E : String) : Prop := ∃ (Y tx : String) (j ik is ic sa : Nat) (cb : ByteArray) (nm : String),
  Bundle.fit E = true ∧ Bundle.fit Y = true ∧ Bundle.fit nm = true ∧ (decode cb 0 = .ok (.aload_n 0, 1) ∧ decode cb 1 = .ok (.aload_n 1, 1) ∧ decode cb 2 = .ok (.invokespecial j, 3) ∧ decode cb 5 = .ok (.return_, 1)) ∧
  (decode M.2.1 pcE = .ok (.new ik, 3) ∧ decode M.2.1 (pcE + 3) = .ok (.dup, 1) ∧ decode M.2.1 (pcE + 4) = .ok (.ldc is, 2) ∧ decode M.2.1 (pcE + 6) = .ok (.invokespecial ic, 3) ∧ decode M.2.1 (pcE + 9) = .ok (.athrow, 1)) ∧
  Cond.classLink M.1 ik E ∈ Tg ∧ Cond.initialized E ∈ Tg ∧ (M.1, is, tx, sa) ∈ kR ∧
  (∀ w ∈ (xnW M.1 ic E Y j cb [nm]).filter vx_no, w ∈ Tg ∨ w ∈ Tn) ∧ (∀ w ∈ (xnW M.1 ic E Y j cb [nm]).filter vx_no, vx_ot w = true)
/-- what holds where a method has thrown -/
def XQ (E : String) (cy : Nat → ClassId) (D : va_G) (ad : Nat → Nat) (h : PH) (sz : Nat) (h1 : PH) : String → State → State → Prop := fun E' st t =>
  E' = E ∧ (∃ ad' : Nat → Nat, (∀ a, okr (hn h) a → ad' a = ad a) ∧ va_P D vwCl (wd cy ad' h1) t.heap ∧ va_D (va_A (wd cy ad h) sz) (wd cy ad' h1) ∧ okh h1) ∧ va_F (va_A (wd cy ad h) sz) st t
theorem XMet_of {X : Nat × (Nat → Int32)} {l : Ln} {M : MR} {n d L d9 L9 pcE : Nat} {E : String} {args : List Value} {h h1 : PH} (hm : Mok M n) (hR : Rt X M d L 0 (en M.2.2.1 args) [] h (some (.retAddr pcE)) h1) (hT : TR M pcE E) (hc9 : ∀ v ∈ args, v.category = 1) (hoa : okS (hn h) args) (hl : args.length ≤ M.2.2.1) (ho : okh h) (hd : d ≤ d9 ∧ 6 ≤ d9) (hL : L ≤ L9 ∧ 82 ≤ L9) (cy : Nat → ClassId) (D : va_G) (ad : Nat → Nat) (sz : Nat) :
    vx_Met l.1 M.2.2.2.2 (wsM M) ({ frames := d9, cells := hc h1 - hc h + 1, slots := hs h1 - hs h + 6, locals := L9 }) (va_Pc (args.map (cv ad)) (Pk X cy D ad h sz)) (fun _ _ _ _ => False) (XQ E cy D ad h sz h1) (hc h1 - hc h + 1) (hs h1 - hs h + 6) (va_A (wd cy ad h) sz) := by
  refine vx_ofW (cc := M.2.1) (maxL := M.2.2.1) (ret := M.2.2.2.1) (by rw [hm.1]; exact hm.2.1) rfl ?_
  intro p e s m args9 below meth c s₁ B hml htab hv
  obtain ⟨rfl, hsz, hP, hK, hD0, hKC⟩ := hv
  have hts := atoms_spec (ws := wsM M) B.pre
  have hown : s.vm.findClass M.1 = some m.cls := by rw [← hm.1]; exact findClass_of_methodNamed B.named
  subst hsz
  have hD := hD0.self (sz := s.heap.size)
  have hlocks : meth.locks = false := B.notSynchronized
  have hC : Cx X M cy D ad (va_A (wd cy ad h) s.heap.size) p s m (args.map (cv ad)).toArray meth c :=
    ⟨B.exec, B.bytes, hml, hown, fun w hw => hts w (List.mem_cons_of_mem _ hw), hlocks, B.returns, (name_of_methodNamed B.named B.method).1, hK, fun q hq => Or.inr hq, hKC⟩
  rw [lg_entry_eq]
  obtain ⟨k1, k2, k3, k4⟩ := hR
  have hw := k4 p l e (headSpec (wsM M) ({ frames := d9, cells := hc h1 - hc h + 1, slots := hs h1 - hs h + 6, locals := L9 })).room s m (args.map (cv ad)).toArray below meth c cy D (va_A (wd cy ad h) s.heap.size) ad s.heap [] _ (hc h) (hs h) (vx_MQ below (fun _ _ _ _ => False) (XQ E cy D ad h s.heap.size h1) (args.map (cv ad)).toArray s (hc h1 - hc h + 1) (hs h1 - hs h + 6) (va_A (wd cy ad h) s.heap.size)) hC
    hd.1 hL.1 (by show hc h1 ≤ hc h + (hc h1 - hc h + 1); omega) (by show hs h1 ≤ hs h + (hs h1 - hs h + 6); omega) (Nat.le_refl _) (Nat.le_refl _) ⟨hP, hD, va_S.rf, ho⟩ (PL_entry hc9 hoa hl) (fun v hv => by cases hv) ?_
  · rw [Nat.sub_self, Nat.sub_self] at hw
    exact hw
  · intro ad' H' locs' cls' pcE' g1 g2 g3 g4 g5
    have g3 : pcE = pcE' := g3
    subst g3
    obtain ⟨Y, tx, j, ik, is, ic, sa, cb, nm, t1, t2, t3, ⟨b0, b1, b2, b5⟩, ⟨d0, d3, d4, d6, d10⟩, w1, w2, w3, w4, w5⟩ := hT
    have hKs := hC.2.2.2.2.2.2.2.2.2.2
    have hwt := hC.2.2.2.2.1
    refine xn_throw (E := E) (Y := Y) (text := tx) (names := [nm]) (A := va_A (wd cy ad h) s.heap.size) (sa := ad sa) hC.1 hC.2.1 l.2 hC.2.2.2.1 t1 t2 (fun n hn9 => by rw [List.mem_singleton.mp hn9]; exact t3) b0 b1 b2 b5 (hwt _ w1) (hwt _ w2) (hKs.2.2.2.2.2.2.1 _ w3)
      (fun w hw => (w4 w hw).elim (fun z => hwt _ z) (fun z => NW.use hKs.1 z)) w5
      (hKs.2.2.2.2.2.2.2.1 ("java/lang/Throwable", "UNASSIGNED_STACK", "[Ljava/lang/StackTraceElement;") (List.mem_cons_of_mem _ List.mem_cons_self))
      (hKs.2.2.2.2.2.2.2.1 ("java/lang/Throwable", "SUPPRESSED_SENTINEL", "Ljava/util/List;") (List.mem_cons_of_mem _ (List.mem_cons_of_mem _ List.mem_cons_self)))
      g2.2.2.1 (g5.trans hC.2.2.1.symm) d0 d3 d4 d6 d10 (fun x hx => (htab x hx).elim) ?_ ?_ (Nat.le_refl _) (Nat.le_refl _) hlocks (fun t ht hz hq => ⟨rfl, ⟨ad', g1, ?_, g2.2.1, g2.2.2.2⟩, ?_⟩) g2.2.2.1.2.2 (Nat.le_refl _) (Nat.le_refl _)
    · show 1 + 4 < d9; omega
    · show 0 + (13 * (1 + 2) + 43) ≤ L9; omega
    · exact g2.1.kept (fun k x hx => hq x.1 ((g2.1 k x hx).lt))
    · exact ⟨Nat.le_trans g2.2.2.1.1 hz, fun q h1 h2 => by rw [hq q (Nat.lt_of_lt_of_le h1 g2.2.2.1.1)]; exact g2.2.2.1.2.1 q h1 h2⟩
/-- a body with a table that returns -/
theorem xh_ofW {l : Launch} {y : MethodName} {ws ws' : List Cond} {rm : Room} {Pc : Array Value → State → Prop} {Qc : Array Value → State → Outcome → State → Prop} {mc ms : Nat} {free : Addr → Prop} {cc : ByteArray} {maxL : Nat} {ret : Option FieldType} {hh : List (Nat × Nat × Nat × Nat)}
    (hy : plainName y.cls = true) (hw : ws = Cond.codeWith y cc maxL ret hh :: ws')
    (body : ∀ p e s m args below meth c s₁, BodyLoose p l y (headSpec ws rm) cc maxL ret e s m args below meth c s₁ → c.maxLocals = maxL → Pc args s →
      W p l e (headSpec ws rm).room s m args below meth c s.heap [] 0 0 (MQ below Qc args s mc ms free) (entryFrame m args maxL)) : Met l y ws rm Pc Qc mc ms free := by
  refine MetFree.of_bodyS (code := cc) (maxLocals := maxL) (ret := ret) hy ?_ ?_
  · intro args s m h hn
    obtain ⟨m9, meth, c, hn9, h1, h2, h3, h4, -, h5, h6, -⟩ := Cond.codeWith_spec (atoms_spec (ws := ws) h _ (by rw [hw]; exact List.mem_cons_self))
    cases hn.symm.trans hn9
    exact ⟨meth, c, h1, h2, h3, h4, h5, h6⟩
  · intro p e s m args below meth c s₁ B hml hP _
    have hh0 : s₁.heap = s.heap := by rw [B.state]; rfl
    obtain ⟨t, a1, o, b1, b2, b3⟩ := body p e s m args below meth c s₁ B hml hP s₁ hh0 (Stand.of_body B)
    exact ⟨t, o, a1, b1, b2, ⟨b3.1, b3.2⟩⟩
abbrev wsH (M : MR) (hh : List (Nat × Nat × Nat × Nat)) : List Cond := Jvm.Cond.codeWith M.2.2.2.2 M.2.1 M.2.2.1 M.2.2.2.1 hh :: Tg
def HMok (M : MR) (n : Nat) (hh : List (Nat × Nat × Nat × Nat)) : Prop := M.2.2.2.2.cls = M.1 ∧ plainName M.1 = true ∧ (M.1 ≠ "java/lang/invoke/MethodHandle" ∧ M.1 ≠ "java/lang/invoke/VarHandle" ∧ (parseMethodDescriptor M.2.2.2.2.desc).map (fun d => d.parameters.length) = some n) ∧ Jvm.Cond.codeWith M.2.2.2.2 M.2.1 M.2.2.1 M.2.2.2.1 hh ∈ Tg ∧ Jvm.Cond.initialized M.1 ∈ Tg
theorem good_wsH {M : MR} {n : Nat} {hh : List (Nat × Nat × Nat × Nat)} (hm : HMok M n hh) : GoodIn Tg (wsH M hh) := by
  intro w hw
  rcases List.mem_cons.mp hw with e | e
  · subst e; exact ⟨hm.2.2.2.1, Tg_good hm.2.2.2.1⟩
  · exact ⟨e, Tg_good e⟩
/-- what a call of the helper M comes to -/
def HP (X : Nat × (Nat → Int32)) (M : MR) (hh : List (Nat × Nat × Nat × Nat)) (d L : Nat) (args : List Value) (h : PH) (r : Option Value) (h1 : PH) : Prop :=
  (hn h ≤ hn h1 ∧ hc h ≤ hc h1 ∧ hs h ≤ hs h1) ∧ ∀ (l : Ln) (cy : Nat → ClassId) (D : va_G) (ad : Nat → Nat) (sz : Nat), okh h → okS (hn h) args →
    Met l.1 M.2.2.2.2 (wsH M hh) ({ frames := d, cells := hc h1 - hc h, slots := hs h1 - hs h, locals := L }) (va_Pc (args.map (cv ad)) (Pk X cy D ad h sz)) (Qk cy D ad h sz r h1) (hc h1 - hc h) (hs h1 - hs h) (va_A (wd cy ad h) sz)
theorem HP_ok {X : Nat × (Nat → Int32)} {M : MR} {n d L : Nat} {hh : List (Nat × Nat × Nat × Nat)} {args : List Value} {h h1 : PH} {r : Option Value} (hm : HMok M n hh) (hR : Rt X M d L 0 (en M.2.2.1 args) [] h r h1) (hr : rok M r) (hc9 : ∀ v ∈ args, v.category = 1) (hl : args.length ≤ M.2.2.1) : HP X M hh d L args h r h1 := by
  refine ⟨⟨hR.1, hR.2.1, hR.2.2.1⟩, fun l cy D ad sz ho hoa => ?_⟩
  refine xh_ofW (cc := M.2.1) (maxL := M.2.2.1) (ret := M.2.2.2.1) (hh := hh) (by rw [hm.1]; exact hm.2.1) rfl ?_
  intro p e s m args9 below meth c s₁ B hml hv
  obtain ⟨rfl, hsz, hP, hK, hD0, hKC⟩ := hv
  have hts := atoms_spec (ws := wsH M hh) B.pre
  have hown : s.vm.findClass M.1 = some m.cls := by rw [← hm.1]; exact findClass_of_methodNamed B.named
  subst hsz
  have hD := hD0.self (sz := s.heap.size)
  have hlocks : meth.locks = false := B.notSynchronized
  have hC : Cx X M cy D ad (va_A (wd cy ad h) s.heap.size) p s m (args.map (cv ad)).toArray meth c :=
    ⟨B.exec, B.bytes, hml, hown, fun w hw => hts w (List.mem_cons_of_mem _ hw), hlocks, B.returns, (name_of_methodNamed B.named B.method).1, hK, fun q hq => Or.inr hq, hKC⟩
  rw [lg_entry_eq]
  obtain ⟨k1, k2, k3, k4⟩ := hR
  have hw := k4 p l e (headSpec (wsH M hh) ({ frames := d, cells := hc h1 - hc h, slots := hs h1 - hs h, locals := L })).room s m (args.map (cv ad)).toArray below meth c cy D (va_A (wd cy ad h) s.heap.size) ad s.heap [] _ (hc h) (hs h) (MQ below (Qk cy D ad h s.heap.size r h1) (args.map (cv ad)).toArray s (hc h1 - hc h) (hs h1 - hs h) (va_A (wd cy ad h) s.heap.size)) hC
    (Nat.le_refl _) (Nat.le_refl _) (by show hc h1 ≤ hc h + (hc h1 - hc h); omega) (by show hs h1 ≤ hs h + (hs h1 - hs h); omega) (Nat.le_refl _) (Nat.le_refl _) ⟨hP, hD, va_S.rf, ho⟩ (PL_entry hc9 hoa hl) (fun v hv => by cases hv) ?_
  · rw [Nat.sub_self, Nat.sub_self] at hw
    exact hw
  · intro ad' H' locs' cls' pcE g1 g2 g3 g4 g5
    have hq : ∀ (t : State), t.heap = H' → Qk cy D ad h s.heap.size r h1 (args.map (cv ad)).toArray s (.returned (r.map (cv ad'))) t := fun t ht =>
      ⟨⟨ad', g1, rfl, by rw [ht]; exact g2.1, g2.2.1, g2.2.2.2, g4⟩, g2.2.2.1.F ht⟩
    rcases hr with ⟨rfl, e2⟩ | ⟨v, ty, rfl, e2⟩ | ⟨q, ty, rfl, e2, e3⟩
    · exact W.vret hC.1 hC.2.1 (hC.2.2.2.2.2.2.1.trans e2) (fun t ht hW => hq t ht) g2.2.2.1.2.2 g3
    · exact W.zret hC.1 hC.2.1 (hC.2.2.2.2.2.2.1.trans e2) (g3.2 ty e2) (fun t ht hW => hq t ht) g2.2.2.1.2.2 g3.1
    · cases q with
      | none => exact W.aret hC.1 hC.2.1 (hC.2.2.2.2.2.2.1.trans e2) e3 (Or.inl rfl) (fun t ht hW => hq t ht) g2.2.2.1.2.2 g3
      | some b => exact W.aret hC.1 hC.2.1 (hC.2.2.2.2.2.2.1.trans e2) e3 (Or.inr ⟨ad' b, rfl⟩) (fun t ht hW => hq t ht) g2.2.2.1.2.2 g3
/-- a call of a helper -/
theorem w_callH {X : Nat × (Nat → Int32)} {M M2 : MR} {hh : List (Nat × Nat × Nat × Nat)} {d L pc n idx d2 L2 : Nat} {ls : List (Option Value)} {st As rest : List Value} {h h1 : PH} {r : Option Value} {Q : Option Value → PH → Prop} (hd : decode M.2.1 pc = .ok (.invokestatic idx, 3)) (hm : HMok M2 n hh) (hl : Jvm.Cond.methodLink M.1 idx M2.2.2.2.2 ∈ Tg) (hi : Jvm.Cond.static M2.2.2.2.2 ∈ Tg)
    (hst : st = As.reverse ++ rest) (hn9 : As.length = n) (hrs : (rest.map fun v => v.category).sum ≤ 8) (hd2 : d2 + 1 ≤ d) (hL2 : 8 + (M2.2.2.1 + 11) + L2 ≤ L) (hp : HP X M2 hh d2 L2 As h r h1)
    (kk : WP X M d L (pc + 3) ls (r.toList ++ rest) h1 Q) : WP X M d L pc ls st h Q := by
  obtain ⟨r', hE, hRt2, hQ⟩ := kk
  refine ⟨r', hE, ?_, hQ⟩
  have hoR : okS (hn h) st → okS (hn h) rest := fun ho v hv => ho v (by rw [hst]; exact List.mem_append_right _ hv)
  have hoA : okS (hn h) st → okS (hn h) As := fun ho v hv => ho v (by rw [hst]; exact List.mem_append_left _ (List.mem_reverse.mpr hv))
  refine Rt.call (r := r) (h1 := h1) hp.1 hoR (fun p l e R s m args below meth c H locs cells slots ad cls cy D A hC hdR hLR hRp hcs hS hf => ?_) hRt2
  have hMet := hp.2 l cy D ad H.size hRp.2.2.2 (hoA hS)
  have hpre := (Pk_of hC hRp).2
  have hts := hC.2.2.2.2.1
  have hstk : (F0 m pc cls (st.map (cv ad))).stack = (As.map (cv ad)).reverse ++ rest.map (cv ad) := by
    show st.map (cv ad) = _
    rw [hst, List.map_append, List.map_reverse]
  have hrs' : 2 * (F0 m pc cls (st.map (cv ad))).monitorRoom + ((rest.map (cv ad)).map fun v => v.category).sum ≤ 8 := lv_room (by rw [List.map_map, show ((fun v : Value => v.category) ∘ cv ad) = fun v => v.category from funext (fun v => cv_cat ad v)]; exact hrs)
  have hPreS : PreS s H (va_Pc (As.map (cv ad)) (Pk X cy D ad h H.size)) (As.map (cv ad)) := ⟨Pk_blind, fun U hU hW => ⟨rfl, hpre U hU hW⟩⟩
  refine ⟨(As.map (cv ad)).toArray, ?_⟩
  have hcls : M2.2.2.2.2.cls = M2.1 := hm.1
  refine vx_runSW (hh := hh) (As := As.map (cv ad)) (bytes := M2.2.1) (maxL := M2.2.2.1) (ret := M2.2.2.2.1) (nL := M.2.2.1) (n := n) (index := idx) (own := M.1) (Ts := Tg) ⟨hC.1, hC.2.1, hC.2.2.1, hC.2.2.2.1, hts⟩ hMet ?_ hPreS rfl (by rw [List.length_map]; exact hn9) hcs hstk hrs' hd hf
  refine ⟨⟨rfl, rfl, Nat.le_trans hd2 hdR, Nat.le_trans hL2 hLR, pay_in hts (good_wsH hm), List.mem_cons_self⟩, hts _ hm.2.2.2.1, by rw [hcls]; exact hts _ hm.2.2.2.2, by rw [hcls]; exact ⟨hm.2.2.1.1, hm.2.2.1.2.1⟩, fun sig h9 => ?_, hts _ hl, hts _ hi⟩
  have h2 := hm.2.2.1.2.2
  rw [h9] at h2
  exact (Option.some.inj h2).symm
/-- a cell made that is none of ours: the exception -/
def hX (h : PH) : PH := (hI h, hL h, hR h, hn h, hc h + 1, hs h + 6)
abbrev hM (cb : ByteArray) (y : MethodName) : MR := (RL, cb, 4, some .int, y)
/-- the text of a helper: it calls M2 by the entry idx, and catches E by the entry ct -/
def HF (cb : ByteArray) (y : MethodName) (M2 : MR) (idx ct : Nat) (E : String) : Prop := HMok (hM cb y) 3 [(0, 9, 12, ct)] ∧
  (decode cb 0 = .ok (.aload_n 2, 1) ∧ decode cb 1 = .ok (.iconst 0, 1) ∧ decode cb 2 = .ok (.aload_n 0, 1) ∧ decode cb 3 = .ok (.iload_n 1, 1) ∧ decode cb 4 = .ok (.invokevirtual idx, 3)) ∧
  (decode cb 7 = .ok (.i2l, 1) ∧ decode cb 8 = .ok (.lastore, 1) ∧ decode cb 9 = .ok (.goto 6, 3) ∧ decode cb 15 = .ok (.iconst 0, 1) ∧ decode cb 16 = .ok (.ireturn, 1)) ∧
  (decode cb 12 = .ok (.astore_n 3, 1) ∧ decode cb 13 = .ok (.iconst 1, 1) ∧ decode cb 14 = .ok (.ireturn, 1)) ∧
  SV RL idx M2 1 9 ∧ Jvm.Cond.methodLink RL idx M2.2.2.2.2 ∈ Tg ∧ M2.2.2.2.1 = some .int ∧ (2 ≤ M2.2.2.1 ∧ M2.2.2.1 ≤ 20) ∧ Jvm.Cond.classLink RL ct E ∈ Tg ∧ Jvm.Cond.castable E E ∈ Tn ∧ ct ≠ 0
theorem Rt.wd {X : Nat × (Nat → Int32)} {M : MR} {d L d' L' pc : Nat} {ls : List (Option Value)} {st : List Value} {h : PH} {r : Option Value} {hE : PH} (hd : d ≤ d') (hL : L ≤ L') (k : Rt X M d L pc ls st h r hE) : Rt X M d' L' pc ls st h r hE :=
  ⟨k.1, k.2.1, k.2.2.1, fun p l e R s m args below meth c cy D A ad H locs cls c0 s0 Qf hC h1 h2 => k.2.2.2 p l e R s m args below meth c cy D A ad H locs cls c0 s0 Qf hC (Nat.le_trans hd h1) (Nat.le_trans hL h2)⟩
theorem WP.wd {X : Nat × (Nat → Int32)} {M : MR} {d L d' L' pc : Nat} {ls : List (Option Value)} {st : List Value} {h : PH} {Q : Option Value → PH → Prop} (hd : d ≤ d') (hL : L ≤ L') (k : WP X M d L pc ls st h Q) : WP X M d' L' pc ls st h Q := by
  obtain ⟨r, hE, a, b⟩ := k
  exact ⟨r, hE, Rt.wd hd hL a, b⟩
section HG
variable {X : Nat × (Nat → Int32)} {cb : ByteArray} {y : MethodName} {M2 : MR} {idx ct d2 L2 : Nat} {E : String} {i v : Int32} {h h1 : PH}
/-- it returns -/
theorem HP_good (hf : HF cb y M2 idx ct E) (hR : Rt X M2 d2 L2 0 (en M2.2.2.1 [.ref 0, .int i]) [] h (some (.int v)) h1) (hd : d2 ≤ 8 ∧ L2 ≤ 160) (h40 : 40 ≤ hn h) :
    HP X (hM cb y) [(0, 9, 12, ct)] 9 200 [.ref 0, .int i, .ref 39] h (some (.int 0)) (sL h1 39 0 v.toInt64) := by
  obtain ⟨hm, ⟨e0, e1, e2, e3, e4⟩, ⟨e7, e8, e9, e15, e16⟩, -, hs9, -, hret, ⟨hl1, hl2⟩, -⟩ := hf
  have hw : WP X (hM cb y) 9 200 0 (en 4 [.ref 0, .int i, .ref 39]) [] h (fun r h' => r = some (.int 0) ∧ h' = sL h1 39 0 v.toInt64) := by
    refine w_aload_n (i := 2) e0 rfl rfl ?_
    refine w_iconst (v := 0) e1 (by decide) ?_
    refine w_aload_n (i := 0) e2 rfl rfl ?_
    refine w_iload_n (i := 1) e3 rfl rfl ?_
    refine w_v1 (d2 := d2) (L2 := L2) e4 hs9 rfl (Nat.lt_of_lt_of_le (by decide) h40) rfl hl1 (Nat.le_of_ble_eq_true rfl) (by omega) (by omega) ?_
    refine ⟨_, h1, hR, k_i hret ?_⟩
    refine w_i2l e7 ?_
    refine w_lastore (a := 39) e8 rfl (Nat.lt_of_lt_of_le (by decide) (Nat.le_trans h40 hR.1)) (vin (by decide)) ?_
    refine w_goto (tgt := 15) e9 (by decide) ?_
    refine w_iconst (v := 0) e15 (by decide) ?_
    refine w_iret e16 (fun _ e => by cases e; rfl) ?_
    exact ⟨rfl, rfl⟩
  obtain ⟨r, hE, hRt, rfl, rfl⟩ := hw
  exact HP_ok hm hRt (Or.inr (Or.inl ⟨0, .int, rfl, rfl⟩)) (fun v hv => by
    simp only [List.mem_cons, List.not_mem_nil, or_false] at hv
    rcases hv with rfl | rfl | rfl <;> rfl) (by show 3 ≤ 4; decide)
set_option maxHeartbeats 2000000 in
/-- its call throws -/
theorem HP_bad {pcE : Nat} (hf : HF cb y M2 idx ct E) (hR : Rt X M2 d2 L2 0 (en M2.2.2.1 [.ref 0, .int i]) [] h (some (.retAddr pcE)) h1) (hT : TR M2 pcE E) (hd : d2 ≤ 8 ∧ L2 ≤ 160) (h40 : 40 ≤ hn h) :
    HP X (hM cb y) [(0, 9, 12, ct)] 9 200 [.ref 0, .int i, .ref 39] h (some (.int 1)) (hX h1) := by
  obtain ⟨hm, ⟨e0, e1, e2, e3, e4⟩, -, ⟨e12, e13, e14⟩, hs9, hlk, hret, ⟨hl1, hl2⟩, hcl9, hca9, hct⟩ := hf
  have m1 : hn h ≤ hn h1 ∧ hc h ≤ hc h1 ∧ hs h ≤ hs h1 := ⟨hR.1, hR.2.1, hR.2.2.1⟩
  refine ⟨⟨m1.1, Nat.le_trans m1.2.1 (Nat.le_succ _), Nat.le_trans m1.2.2 (Nat.le_add_right _ 6)⟩, fun l cy D ad sz ho hoa => ?_⟩
  have x1 : hc (hX h1) - hc h = hc h1 - hc h + 1 := by show hc h1 + 1 - hc h = _; omega
  have x2 : hs (hX h1) - hs h = hs h1 - hs h + 6 := by show hs h1 + 6 - hs h = _; omega
  rw [x1, x2]
  refine xh_ofW (cc := cb) (maxL := 4) (ret := some .int) (hh := [(0, 9, 12, ct)]) (by rw [hm.1]; exact hm.2.1) rfl ?_
  intro p e s m args9 below meth c s₁ B hml hv
  obtain ⟨rfl, hsz, hP, hK, hD0, hKC⟩ := hv
  have hts := atoms_spec (ws := wsH (hM cb y) [(0, 9, 12, ct)]) B.pre
  have hown : s.vm.findClass RL = some m.cls := by
    have := findClass_of_methodNamed B.named
    rw [hm.1] at this; exact this
  subst hsz
  have hD := hD0.self (sz := s.heap.size)
  have hlocks : meth.locks = false := B.notSynchronized
  have htab : c.exceptionTable.toList = tableOf [(0, 9, 12, ct)] := vx_table (x := y) B (hts _ List.mem_cons_self)
  have hC : Cx X (hM cb y) cy D ad (va_A (wd cy ad h) s.heap.size) p s m (([.ref 0, .int i, .ref 39] : List Value).map (cv ad)).toArray meth c :=
    ⟨B.exec, B.bytes, hml, hown, fun w hw => hts w (List.mem_cons_of_mem _ hw), hlocks, B.returns, (name_of_methodNamed B.named B.method).1, hK, fun q hq => Or.inr hq, hKC⟩
  have hwt := hC.2.2.2.2.1
  have hRp : Rp cy D ad h (va_A (wd cy ad h) s.heap.size) s.heap s.heap [] := ⟨hP, hD, va_S.rf, ho⟩
  have hPL := PL_entry (n := hn h) (ad := ad) (nL := 4) (args := [.ref 0, .int i, .ref 39]) (fun v hv => by
    simp only [List.mem_cons, List.not_mem_nil, or_false] at hv
    rcases hv with rfl | rfl | rfl <;> rfl) hoa (by show 3 ≤ 4; decide)
  rw [lg_entry_eq]
  generalize ((lg_sl (([.ref 0, .int i, .ref 39] : List Value).map (cv ad)) ++ List.replicate (4 - (lg_sl (([.ref 0, .int i, .ref 39] : List Value).map (cv ad))).length) Slot.unset).toArray) = cls at hPL ⊢
  have p0 := (hPL.2.2 0 (.ref 0) rfl).2.2
  have p1 := (hPL.2.2 1 (.int i) rfl).2.2
  have p2 := (hPL.2.2 2 (.ref 39) rfl).2.2
  refine lv_aload_n hC.1 hC.2.1 e0 rfl p2 ?_
  refine lv_iconst (v := 0) hC.1 hC.2.1 e1 (by decide) ?_
  refine lv_aload_n hC.1 hC.2.1 e2 rfl p0 ?_
  refine lv_iload_n hC.1 hC.2.1 e3 rfl p1 ?_
  have h0n : 0 < hn h := by omega
  have hMet := XMet_of (l := l) (d9 := 8) (L9 := 160) hs9.1 hR hT (fun v hv => by
    simp only [List.mem_cons, List.not_mem_nil, or_false] at hv
    rcases hv with rfl | rfl <;> rfl) (okS.cons (fun a e => by cases e; exact Or.inl h0n) (okS.i (fun v hv => by cases hv))) (by show 2 ≤ _; exact hl1) ho ⟨hd.1, by decide⟩ ⟨hd.2, by decide⟩ cy D ad s.heap.size
  have hpre := (Pk_of hC hRp).2
  obtain ⟨q1, q2, q3, q4, ⟨T9, N9, q5⟩, q6⟩ := hs9
  have hrc := va_recv hC.2.2.2.2.2.2.2.2.1 hRp.1 (ci := 9) (q0 := 0) q5 (by rw [wd_get h0n, ce_o (c := 9) rfl (by decide)])
  have hPreV : PreV s s.heap M2.1 (ad 0) (va_Pc (([.ref 0, .int i] : List Value).map (cv ad)) (Pk X cy D ad h s.heap.size)) [.int i] := ⟨Pk_blind, hrc, fun U hU hW => ⟨rfl, hpre U hU hW⟩⟩
  have hcls : M2.2.2.2.2.cls = M2.1 := q1.1
  have hrun := vx_runV (below := below) (meth := meth) (e := e) (H := s.heap) (locs := []) (cells := 0) (slots := 0) (R := (headSpec (wsH (hM cb y) [(0, 9, 12, ct)]) ({ frames := 9, cells := hc h1 - hc h + 1, slots := hs h1 - hs h + 6, locals := 200 })).room) (As := [.int i]) (rest := [.int 0, .ref (ad 39)]) (g := F0 m 4 cls [.int i, .ref (ad 0), .int 0, .ref (ad 39)]) (C := M2.1) (bytes := M2.2.1) (maxL := M2.2.2.1) (ret := M2.2.2.2.1) (nL := 4) (n := 1) (index := idx) (own := RL) (Ts := Tg) ⟨hC.1, hC.2.1, hC.2.2.1, hC.2.2.2.1, hwt⟩ hMet
    ⟨callB_of 1 hwt (good_ws (M := hM cb y) q1) rfl rfl rfl (by rw [hcls]; exact hwt _ q1.2.2.2.2) (hwt _ hlk) (by rw [hcls]; exact q1.2.2.1) ⟨by show 8 + 1 ≤ 9; decide, by show 8 + (M2.2.2.1 + 11) + 160 ≤ 200; omega⟩, hwt _ q3, hwt _ q4⟩ hPreV rfl rfl hPL.1 rfl (lv_room (by show 1 + (1 + 0) ≤ 8; decide)) e4 ⟨by show 0 + (hc h1 - hc h + 1) ≤ hc h1 - hc h + 1; omega, by show 0 + (hs h1 - hs h + 6) ≤ hs h1 - hs h + 6; omega⟩
  intro T hT X9
  rcases hrun T hT X9 with ⟨v, st₀, t, T', Lo, h0, X', hLo, t1, t2, hq, st⟩ | ⟨q, st₀, t, T', Lo, E', ce, h0, X', hLo, t1, t2, hq, hce, hcv, hcl, st⟩
  · exact hq.elim
  · obtain ⟨rfl, ⟨ad', g1, g2, g3, g4⟩, hz, hk⟩ := hq
    rw [Nat.zero_add, Nat.zero_add, List.nil_append] at X'
    have hcatch : vx_W p l.1 e (headSpec (wsH (hM cb y) [(0, 9, 12, ct)]) ({ frames := 9, cells := hc h1 - hc h + 1, slots := hs h1 - hs h + 6, locals := 200 })).room s m (([.ref 0, .int i, .ref 39] : List Value).map (cv ad)).toArray below meth c T'.heap Lo (hc h1 - hc h + 1) (hs h1 - hs h + 6) (MQ below (Qk cy D ad h s.heap.size (some (.int 1)) (hX h1)) (([.ref 0, .int i, .ref 39] : List Value).map (cv ad)).toArray s (hc h1 - hc h + 1) (hs h1 - hs h + 6) (va_A (wd cy ad h) s.heap.size)) (F0 m 4 cls [.int 0, .ref (ad 39)]) q := by
      refine vx_catch (own := RL) (name := E') (E := E') (ce := ce) hown [] _ [] htab (fun z hz => nomatch hz) rfl hct (hwt _ hcl9) (NW.use hC.2.2.2.2.2.2.2.2.2.2.1 hca9) (by rw [t1]; exact hce) hcv hcl ?_
      refine lv_astore_n (i := 3) hC.1 hC.2.1 e12 rfl hPL.has (by decide) rfl (fun cls2 h2 => ?_)
      refine lv_iconst (v := 1) hC.1 hC.2.1 e13 (by decide) ?_
      refine W.zret (ty := .int) hC.1 hC.2.1 hC.2.2.2.2.2.2.1 rfl (fun t9 ht9 hW9 => ⟨⟨ad', g1, rfl, by rw [ht9, t1]; exact g2, g3, g4, fun v9 e9 => by cases e9; exact okv_int _ _⟩, ?_⟩) hLo e14
      rw [h0] at hz hk
      exact ⟨by rw [ht9, t1]; exact hz, fun q9 y1 y2 => by rw [ht9, t1]; exact hk q9 y1 y2⟩
    obtain ⟨t3, a1, b1⟩ := hcatch T' rfl X'
    exact ⟨t3, st.trans a1, b1⟩
end HG
