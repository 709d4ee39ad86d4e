/-! TEXTS: the JDK's length() and charAt(), over the constants -/
abbrev mJ0_length_8abf5 : MR := (RJ0, cJ0_length_8abf5, 1, (some .int), yJ0_length_8abf5)
theorem oJ0_length_8abf5 : Mok mJ0_length_8abf5 0 := ⟨rfl, by decide, ⟨by decide, by decide, by decide +kernel⟩, (tg 416 (by decide +kernel) (by decide +kernel)), (tg 14 (by decide +kernel) (by decide +kernel))⟩
theorem iJ0_length_8abf5 : Jvm.Cond.instanceMethod mJ0_length_8abf5.2.2.2.2 ∈ Tg := (tg 414 (by decide +kernel) (by decide +kernel))
theorem sJ0_length_8abf5 : Jvm.Cond.selects mJ0_length_8abf5.1 mJ0_length_8abf5.2.2.2.2 mJ0_length_8abf5.2.2.2.2 ∈ Tg := (tg 415 (by decide +kernel) (by decide +kernel))
abbrev mJ0_charAt_5068e : MR := (RJ0, cJ0_charAt_5068e, 2, (some .char), yJ0_charAt_5068e)
theorem oJ0_charAt_5068e : Mok mJ0_charAt_5068e 1 := ⟨rfl, by decide, ⟨by decide, by decide, by decide +kernel⟩, (tg 426 (by decide +kernel) (by decide +kernel)), (tg 14 (by decide +kernel) (by decide +kernel))⟩
theorem iJ0_charAt_5068e : Jvm.Cond.instanceMethod mJ0_charAt_5068e.2.2.2.2 ∈ Tg := (tg 424 (by decide +kernel) (by decide +kernel))
theorem sJ0_charAt_5068e : Jvm.Cond.selects mJ0_charAt_5068e.1 mJ0_charAt_5068e.2.2.2.2 mJ0_charAt_5068e.2.2.2.2 ∈ Tg := (tg 425 (by decide +kernel) (by decide +kernel))
abbrev mJ0_coder_7d493 : MR := (RJ0, cJ0_coder_7d493, 1, (some .byte), yJ0_coder_7d493)
theorem oJ0_coder_7d493 : Mok mJ0_coder_7d493 0 := ⟨rfl, by decide, ⟨by decide, by decide, by decide +kernel⟩, (tg 420 (by decide +kernel) (by decide +kernel)), (tg 14 (by decide +kernel) (by decide +kernel))⟩
theorem iJ0_coder_7d493 : Jvm.Cond.instanceMethod mJ0_coder_7d493.2.2.2.2 ∈ Tg := (tg 418 (by decide +kernel) (by decide +kernel))
theorem sJ0_coder_7d493 : Jvm.Cond.selects mJ0_coder_7d493.1 mJ0_coder_7d493.2.2.2.2 mJ0_coder_7d493.2.2.2.2 ∈ Tg := (tg 419 (by decide +kernel) (by decide +kernel))
abbrev mJ0_isLatin1_aae02 : MR := (RJ0, cJ0_isLatin1_aae02, 1, (some .boolean), yJ0_isLatin1_aae02)
theorem oJ0_isLatin1_aae02 : Mok mJ0_isLatin1_aae02 0 := ⟨rfl, by decide, ⟨by decide, by decide, by decide +kernel⟩, (tg 430 (by decide +kernel) (by decide +kernel)), (tg 14 (by decide +kernel) (by decide +kernel))⟩
theorem iJ0_isLatin1_aae02 : Jvm.Cond.instanceMethod mJ0_isLatin1_aae02.2.2.2.2 ∈ Tg := (tg 428 (by decide +kernel) (by decide +kernel))
theorem sJ0_isLatin1_aae02 : Jvm.Cond.selects mJ0_isLatin1_aae02.1 mJ0_isLatin1_aae02.2.2.2.2 mJ0_isLatin1_aae02.2.2.2.2 ∈ Tg := (tg 429 (by decide +kernel) (by decide +kernel))
abbrev mJ0_checkIndex_df160 : MR := (RJ0, cJ0_checkIndex_df160, 2, none, yJ0_checkIndex_df160)
theorem oJ0_checkIndex_df160 : Mok mJ0_checkIndex_df160 2 := ⟨rfl, by decide, ⟨by decide, by decide, by decide +kernel⟩, (tg 436 (by decide +kernel) (by decide +kernel)), (tg 14 (by decide +kernel) (by decide +kernel))⟩
theorem tJ0_checkIndex_df160 : Jvm.Cond.static mJ0_checkIndex_df160.2.2.2.2 ∈ Tg := (tg 435 (by decide +kernel) (by decide +kernel))
abbrev mJ1_charAt_3b067 : MR := (RJ1, cJ1_charAt_3b067, 2, (some .char), yJ1_charAt_3b067)
theorem oJ1_charAt_3b067 : Mok mJ1_charAt_3b067 2 := ⟨rfl, by decide, ⟨by decide, by decide, by decide +kernel⟩, (tg 433 (by decide +kernel) (by decide +kernel)), (tg 15 (by decide +kernel) (by decide +kernel))⟩
theorem tJ1_charAt_3b067 : Jvm.Cond.static mJ1_charAt_3b067.2.2.2.2 ∈ Tg := (tg 432 (by decide +kernel) (by decide +kernel))
abbrev mJ3_checkIndex_8e157 : MR := (RJ3, cJ3_checkIndex_8e157, 3, (some .int), yJ3_checkIndex_8e157)
theorem oJ3_checkIndex_8e157 : Mok mJ3_checkIndex_8e157 3 := ⟨rfl, by decide, ⟨by decide, by decide, by decide +kernel⟩, (tg 441 (by decide +kernel) (by decide +kernel)), (tg 16 (by decide +kernel) (by decide +kernel))⟩
theorem tJ3_checkIndex_8e157 : Jvm.Cond.static mJ3_checkIndex_8e157.2.2.2.2 ∈ Tg := (tg 440 (by decide +kernel) (by decide +kernel))
theorem lX0_140 : LM RX0 140 mX5_takesOneWord.2.2.2.2 := Or.inl (tg 403 (by decide +kernel) (by decide +kernel))
theorem lX0_157 : LM RX0 157 mJ0_length_8abf5.2.2.2.2 := Or.inl (tg 413 (by decide +kernel) (by decide +kernel))
theorem lJ0_335 : LM RJ0 335 mJ0_coder_7d493.2.2.2.2 := Or.inl (tg 417 (by decide +kernel) (by decide +kernel))
theorem lX0_161 : LM RX0 161 mJ0_charAt_5068e.2.2.2.2 := Or.inl (tg 423 (by decide +kernel) (by decide +kernel))
theorem lJ0_492 : LM RJ0 492 mJ0_isLatin1_aae02.2.2.2.2 := Or.inl (tg 427 (by decide +kernel) (by decide +kernel))
theorem vJ0_495 : SS RJ0 495 mJ1_charAt_3b067 2 := ⟨oJ1_charAt_3b067, Or.inl (tg 431 (by decide +kernel) (by decide +kernel)), tJ1_charAt_3b067⟩
theorem vJ1_9 : SS RJ1 9 mJ0_checkIndex_df160 2 := ⟨oJ0_checkIndex_df160, Or.inl (tg 434 (by decide +kernel) (by decide +kernel)), tJ0_checkIndex_df160⟩
theorem gJ0_1053 : Jvm.Cond.fieldLink RJ0 1053 "jdk/internal/util/Preconditions" "SIOOBE_FORMATTER" "Ljava/util/function/BiFunction;" ∈ Tg := (tg 437 (by decide +kernel) (by decide +kernel))
theorem vJ0_1059 : SS RJ0 1059 mJ3_checkIndex_8e157 3 := ⟨oJ3_checkIndex_8e157, Or.inl (tg 439 (by decide +kernel) (by decide +kernel)), tJ3_checkIndex_8e157⟩
theorem vJ2_414 : SS RJ2 414 mJ0_checkIndex_df160 2 := ⟨oJ0_checkIndex_df160, Or.inl (tg 451 (by decide +kernel) (by decide +kernel)), tJ0_checkIndex_df160⟩
theorem lX9_62 : LM RX9 62 mX5_gives.2.2.2.2 := Or.inl (tg 592 (by decide +kernel) (by decide +kernel))
theorem lX1_23 : LM RX1 23 mJ0_length_8abf5.2.2.2.2 := Or.inl (tg 602 (by decide +kernel) (by decide +kernel))
theorem lX1_28 : LM RX1 28 mJ0_charAt_5068e.2.2.2.2 := Or.inl (tg 603 (by decide +kernel) (by decide +kernel))
theorem lX9_40 : LM RX9 40 mJ0_length_8abf5.2.2.2.2 := Or.inl (tg 604 (by decide +kernel) (by decide +kernel))
theorem lX9_50 : LM RX9 50 mJ0_charAt_5068e.2.2.2.2 := Or.inl (tg 607 (by decide +kernel) (by decide +kernel))
theorem lX11_237 : LM RX11 237 mJ0_length_8abf5.2.2.2.2 := Or.inl (tg 1218 (by decide +kernel) (by decide +kernel))
theorem lX11_242 : LM RX11 242 mJ0_charAt_5068e.2.2.2.2 := Or.inl (tg 1219 (by decide +kernel) (by decide +kernel))
section
variable {X : Nat × (Nat → Int32)} {M M2 : MR} {d L pc n idx d2 L2 : Nat} {ls : List (Option Value)} {st : List Value} {h : PH} {Q : Option Value → PH → Prop}
theorem w_i2c {x v : Int32} (hd : decode M.2.1 pc = .ok (.i2c, 1)) (hv : (x.toUInt32 % 65536).toInt32 = v) (k : WP X M d L (pc + 1) ls (.int v :: st) h Q) : WP X M d L pc ls (.int x :: st) h Q :=
  WP.mp (fun _ _ => Rt.pure (fun p l e R s m args below meth c H locs cells slots Q ad cls cy D A hx hb hC hR hP hS kk => lv_i2c hx hb hd hv (kk cls hP (okS.i (okS.tl hS))))) k
theorem PL_entryQ {n nL : Nat} {ad : Nat → Nat} {av : List Value} {ls : List (Option Value)} (hc : ∀ v ∈ av, v.category = 1) (hl : av.length ≤ nL) (hls : ∀ (i : Nat) (v : Value), ls[i]? = some (some v) → v.category = 1 ∧ okv n v ∧ av[i]? = some (cv ad v)) :
    PL n ad nL ls ((lg_sl av ++ List.replicate (nL - (lg_sl av).length) Slot.unset).toArray) := by
  have he := lv_entry av (n := nL) (by rw [lg_len hc]; exact hl)
  refine ⟨he.1, he.2.1, fun i v hv => ?_⟩
  obtain ⟨a, b, c⟩ := hls i v hv
  refine ⟨a, b, ?_⟩
  have := he.2.2 (0 + i, cv ad v) (lv_args1 hc 0 i (cv ad v) c)
  simpa using this
theorem Met_ofQ {l : Ln} {M : MR} {n d L : Nat} {av : List Value} {ls : List (Option Value)} {h h1 : PH} {r : Option Value} (hm : Mok M n) (hR : Rt X M d L 0 ls [] h r h1) (hr : rok M r) (hc9 : ∀ v ∈ av, v.category = 1) (hl : av.length ≤ M.2.2.1) (ho : okh h) (cy : Nat → ClassId) (D : va_G) (ad : Nat → Nat) (sz : Nat) (hls : ∀ (i : Nat) (v : Value), ls[i]? = some (some v) → v.category = 1 ∧ okv (hn h) v ∧ av[i]? = some (cv ad v)) :
    Met l.1 M.2.2.2.2 (wsM M) ({ frames := d, cells := hc h1 - hc h, slots := hs h1 - hs h, locals := L }) (va_Pc av (Pk X cy D ad h sz)) (Qk cy D ad h sz r h1) (hc h1 - hc h) (hs h1 - hs h) (va_A (wd cy ad h) sz) := by
  refine Met.ofW (cc := M.2.1) (maxL := M.2.2.1) (ret := M.2.2.2.1) (by rw [hm.1]; exact hm.2.1) rfl ?_
  intro p e s m args9 below meth c s₁ B hml hv
  obtain ⟨rfl, hsz, hP, hK, hD0, hKC⟩ := hv
  have hts := atoms_spec (ws := wsM M) B.pre
  have hown : s.vm.findClass M.1 = some m.cls := by rw [← hm.1]; exact findClass_of_methodNamed B.named
  subst hsz
  have hD := hD0.self (sz := s.heap.size)
  have hlocks : meth.locks = false := B.notSynchronized
  have hC : Cx X M cy D ad (va_A (wd cy ad h) s.heap.size) p s m av.toArray meth c :=
    ⟨B.exec, B.bytes, hml, hown, fun w hw => hts w (List.mem_cons_of_mem _ hw), hlocks, B.returns, (name_of_methodNamed B.named B.method).1, hK, fun q hq => Or.inr hq, hKC⟩
  rw [lg_entry_eq]
  obtain ⟨k1, k2, k3, k4⟩ := hR
  have hw := k4 p l e (headSpec (wsM M) ({ frames := d, cells := hc h1 - hc h, slots := hs h1 - hs h, locals := L })).room s m av.toArray below meth c cy D (va_A (wd cy ad h) s.heap.size) ad s.heap [] _ (hc h) (hs h) (MQ below (Qk cy D ad h s.heap.size r h1) av.toArray s (hc h1 - hc h) (hs h1 - hs h) (va_A (wd cy ad h) s.heap.size)) hC
    (Nat.le_refl _) (Nat.le_refl _) (by show hc h1 ≤ hc h + (hc h1 - hc h); omega) (by show hs h1 ≤ hs h + (hs h1 - hs h); omega) (Nat.le_refl _) (Nat.le_refl _) ⟨hP, hD, va_S.rf, ho⟩ (PL_entryQ hc9 hl hls) (fun v hv => by cases hv) ?_
  · rw [Nat.sub_self, Nat.sub_self] at hw
    exact hw
  · intro ad' H' locs' cls' pcE g1 g2 g3 g4 g5
    have hq : ∀ (t : State), t.heap = H' → Qk cy D ad h s.heap.size r h1 av.toArray s (.returned (r.map (cv ad'))) t := fun t ht =>
      ⟨⟨ad', g1, rfl, by rw [ht]; exact g2.1, g2.2.1, g2.2.2.2, g4⟩, g2.2.2.1.F ht⟩
    rcases hr with ⟨rfl, e2⟩ | ⟨v, ty, rfl, e2⟩ | ⟨q, ty, rfl, e2, e3⟩
    · exact W.vret hC.1 hC.2.1 (hC.2.2.2.2.2.2.1.trans e2) (fun t ht hW => hq t ht) g2.2.2.1.2.2 g3
    · exact W.zret hC.1 hC.2.1 (hC.2.2.2.2.2.2.1.trans e2) (g3.2 ty e2) (fun t ht hW => hq t ht) g2.2.2.1.2.2 g3.1
    · cases q with
      | none => exact W.aret hC.1 hC.2.1 (hC.2.2.2.2.2.2.1.trans e2) e3 (Or.inl rfl) (fun t ht hW => hq t ht) g2.2.2.1.2.2 g3
      | some b => exact W.aret hC.1 hC.2.1 (hC.2.2.2.2.2.2.1.trans e2) e3 (Or.inr ⟨ad' b, rfl⟩) (fun t ht hW => hq t ht) g2.2.2.1.2.2 g3
/-- getstatic of a reference that is not known, and a static call whose last argument it is -/
theorem w_callQ {C n9 d9 : String} {idx1 : Nat} {As rest : List Value} (hd1 : decode M.2.1 pc = .ok (.getstatic idx1, 3)) (hd : decode M.2.1 (pc + 3) = .ok (.invokestatic idx, 3)) (hq : (C, n9, d9) ∈ kQ) (hw1 : Jvm.Cond.fieldLink M.1 idx1 C n9 d9 ∈ Tg) (hm : Mok M2 n) (hl : Jvm.Cond.methodLink M.1 idx M2.2.2.2.2 ∈ Tg) (hi : Jvm.Cond.static M2.2.2.2.2 ∈ Tg) (hini : Jvm.Cond.initialized M2.1 ∈ Tg)
    (hst : st = As.reverse ++ rest) (hn9 : As.length + 1 = n) (hc9 : ∀ v ∈ As, v.category = 1) (hle : As.length + 1 ≤ M2.2.2.1) (hrs : (rest.map fun v => v.category).sum ≤ 8) (hd2 : d2 + 1 ≤ d) (hL2 : 8 + (M2.2.2.1 + 11) + L2 ≤ L)
    (kk : WP X M2 d2 L2 0 (en M2.2.2.1 As) [] h (fun r h1 => rok M2 r ∧ WP X M d L (pc + 6) ls (r.toList ++ rest) h1 Q)) : WP X M d L pc ls st h Q := by
  obtain ⟨r, h1, hRt, hr, r', hE, hRt2, hQ⟩ := kk
  refine ⟨r', hE, ?_, hQ⟩
  have m1 : hn h ≤ hn h1 ∧ hc h ≤ hc h1 ∧ hs h ≤ hs h1 := ⟨hRt.1, hRt.2.1, hRt.2.2.1⟩
  obtain ⟨k1, k2, k3, k4⟩ := hRt2
  refine ⟨by omega, by omega, by omega, ?_⟩
  intro p l e R s m args below meth c cy D A ad H locs cls c0 s0 Qf hC hdR hLR b1 b2 b3 b4 hRp hP hS hEnd
  have hoR : okS (hn h) rest := fun v hv => hS v (by rw [hst]; exact List.mem_append_right _ hv)
  have hoA : okS (hn h) As := fun v hv => hS v (by rw [hst]; exact List.mem_append_left _ (List.mem_reverse.mpr hv))
  have hts := hC.2.2.2.2.1
  have hcls : M2.2.2.2.2.cls = M2.1 := hm.1
  have main : ∀ v9 : Value, v9.category = 1 → W p l.1 e R s m args below meth c H locs (hc h - c0) (hs h - s0) Qf (F0 m (pc + 3) cls (v9 :: st.map (cv ad))) := by
    intro v9 hv9
    have hc8 : ∀ v ∈ As.map (cv ad) ++ [v9], v.category = 1 := by
      intro v hv
      rcases List.mem_append.mp hv with x | x
      · obtain ⟨w, hw, rfl⟩ := List.mem_map.mp x
        rw [cv_cat]; exact hc9 w hw
      · rw [List.mem_singleton.mp x]; exact hv9
    have hMet := Met_ofQ (l := l) (av := As.map (cv ad) ++ [v9]) hm hRt hr hc8 (by rw [List.length_append, List.length_map]; exact hle) hRp.2.2.2 cy D ad H.size (fun i v hv => by
      unfold en at hv
      by_cases hi : i < As.length
      · rw [List.getElem?_append_left (by rw [List.length_map]; exact hi), List.getElem?_map] at hv
        have ha : As[i]? = some v := by
          cases e : As[i]? with
          | none => rw [e] at hv; cases hv
          | some w => rw [e] at hv; cases hv; rfl
        have hmm := List.mem_of_getElem? ha
        exact ⟨hc9 v hmm, hoA v hmm, by rw [List.getElem?_append_left (by rw [List.length_map]; exact hi), List.getElem?_map, ha]; rfl⟩
      · rw [List.getElem?_append_right (by rw [List.length_map]; omega)] at hv
        have := List.mem_of_getElem? hv
        rw [List.mem_replicate] at this
        cases this.2)
    have hpre := (Pk_of hC hRp).2
    have hstk : (F0 m (pc + 3) cls (v9 :: st.map (cv ad))).stack = (As.map (cv ad) ++ [v9]).reverse ++ rest.map (cv ad) := by
      show v9 :: st.map (cv ad) = _
      rw [hst, List.map_append, List.map_reverse, List.reverse_append]; rfl
    have hrs' : 2 * (F0 m (pc + 3) cls (v9 :: st.map (cv ad))).monitorRoom + ((rest.map (cv ad)).map fun v => v.category).sum ≤ 8 := lv_room (by rw [List.map_map, show ((fun v : Value => v.category) ∘ cv ad) = fun v => v.category from funext (fun v => cv_cat ad v)]; exact hrs)
    have hPreS : PreS s H (va_Pc (As.map (cv ad) ++ [v9]) (Pk X cy D ad h H.size)) (As.map (cv ad) ++ [v9]) := ⟨Pk_blind, fun U hU hW => ⟨rfl, hpre U hU hW⟩⟩
    have hw : va_Run p l.1 e R s m args below meth c H locs (hc h - c0) (hs h - s0) (hc h1 - hc h) (hs h1 - hs h) (F0 m (pc + 3) cls (v9 :: st.map (cv ad))) (rest.map (cv ad)) (Qk cy D ad h H.size r h1 (As.map (cv ad) ++ [v9]).toArray) (va_A (wd cy ad h) H.size) := by
      refine va_runS (As := As.map (cv ad) ++ [v9]) (bytes := M2.2.1) (maxL := M2.2.2.1) (ret := M2.2.2.2.1) (nL := M.2.2.1) (n := n) (index := idx) (own := M.1) (Ts := Tg) ⟨hC.1, hC.2.1, hC.2.2.1, hC.2.2.2.1, hts⟩ hMet ?_ hPreS rfl (by rw [List.length_append, List.length_map]; exact hn9) hP.1 hstk hrs' hd ⟨by omega, by omega⟩
      exact ⟨callB_of n hts (good_ws (M := M) hm) rfl rfl rfl (by rw [hcls]; exact hts _ hini) (hts _ hl) (by rw [hcls]; exact hm.2.2.1) ⟨Nat.le_trans hd2 hdR, Nat.le_trans hL2 hLR⟩, hts _ hi⟩
    have hA := (Pk_of hC hRp).1
    intro T hT X
    obtain ⟨v, st₀, t, T', Lo, h0, X', hLo, e1, e2, ⟨⟨ad', g1, g2, g3, g4, g5, g6⟩, hz, hk⟩, stp⟩ := hw T hT X
    cases g2
    rw [h0] at hz hk
    have hR' : Rp cy D ad' h1 A s.heap T'.heap (locs ++ Lo) := by
      refine ⟨by rw [e1]; exact g3, g4.weaken (fun _ q _ hq => hA _ hq), ⟨Nat.le_trans hRp.2.2.1.1 (by rw [e1]; exact hz), fun q q1 q2 => ?_, fun q hq => ?_⟩, g5⟩
      · rw [e1, hk q (Nat.lt_of_lt_of_le q1 hRp.2.2.1.1) (fun z => q2 (hA q z))]
        exact hRp.2.2.1.2.1 q q1 q2
      · rcases List.mem_append.mp hq with x | x
        · exact hRp.2.2.1.2.2 q x
        · exact hA _ (hLo q x)
    have hP' : PL (hn h1) ad' M.2.2.1 ls cls := ⟨hP.1, hP.2.1, fun i v hv => ⟨(hP.2.2 i v hv).1, (hP.2.2 i v hv).2.1.mono m1.1, by rw [cv_ext g1 (hP.2.2 i v hv).2.1]; exact (hP.2.2 i v hv).2.2⟩⟩
    have hS' : okS (hn h1) (r.toList ++ rest) := by
      intro v hv
      rcases List.mem_append.mp hv with x | x
      · exact g6 v (by cases r with
          | none => cases x
          | some w => simp at x; rw [x])
      · exact (hoR v x).mono m1.1
    have hw2 := k4 p l e R s m args below meth c cy D A ad' T'.heap (locs ++ Lo) cls c0 s0 Qf (hC.ext g1) hdR hLR b1 b2 (Nat.le_trans b3 m1.2.1) (Nat.le_trans b4 m1.2.2) hR' hP' hS'
      (fun ad2 H2 locs2 cls2 pcE x1 x2 x3 x4 x5 => hEnd ad2 H2 locs2 cls2 pcE (fun a ha => (x1 a (ha.mono m1.1)).trans (g1 a ha)) x2 x3 x4 x5)
    have y1 : hc h1 - c0 = hc h - c0 + (hc h1 - hc h) := by omega
    have y2 : hs h1 - s0 = hs h - s0 + (hs h1 - hs h) := by omega
    have y3 : (r.toList ++ rest).map (cv ad') = (r.map (cv ad')).toList ++ rest.map (cv ad) := by
      rw [List.map_append]
      congr 1
      · cases r <;> rfl
      · exact List.map_congr_left (fun v hv => cv_ext g1 (hoR v hv))
    rw [y1, y2, y3] at hw2
    obtain ⟨t2, a1, b1⟩ := hw2 T' rfl X'
    exact ⟨t2, stp t2 a1, b1⟩
  have hZ := (hC.2.2.2.2.2.2.2.2.2.2.2.2.2.2.2.2.2.1 _ hq).1
  rcases hZ with hZ | ⟨t, hZ⟩
  · exact va_gets hC.1 hC.2.1 hZ hRp.2.2.1 hC.2.2.2.1 (hts _ hw1) (fun _ h9 => h9) hd1 (main .null rfl)
  · exact va_gets hC.1 hC.2.1 hZ hRp.2.2.1 hC.2.2.2.1 (hts _ hw1) (fun _ h9 => h9) hd1 (main (.ref t) rfl)
end
theorem k_n {X : Nat × (Nat → Int32)} {M M2 : MR} {d L pc : Nat} {ls : List (Option Value)} {st : List Value} {h : PH} {Q : Option Value → PH → Prop} (e : M2.2.2.2.1 = none) (kk : WP X M d L pc ls st h Q) : rok M2 none ∧ WP X M d L pc ls ((none : Option Value).toList ++ st) h Q := k_v e kk

set_option maxRecDepth 20000 in
set_option maxHeartbeats 4000000 in
/-- checkIndex(i, n, what to throw), of an index that is within -/
theorem T_jck3 {X : Nat × (Nat → Int32)} {h : PH} {Q : Option Value → PH → Prop} {i n : Int32} (h1 : ¬ i < 0) (h2 : i < n) (k : Q (some (.int i)) h) : WP X mJ3_checkIndex_8e157 0 0 0 (en 3 [.int i, .int n]) [] h Q := by
  refine w_iload_n dJ3_checkIndex_8e157_0 rfl rfl ?_
  refine w_if_lt (tgt := 9) dJ3_checkIndex_8e157_1 (by decide) (fun c => absurd c h1) (fun _ => ?_)
  refine w_iload_n dJ3_checkIndex_8e157_4 rfl rfl ?_
  refine w_iload_n dJ3_checkIndex_8e157_5 rfl rfl ?_
  refine w_icmp_lt (tgt := 16) dJ3_checkIndex_8e157_6 (by decide) (fun _ => ?_) (fun c => absurd h2 c)
  refine w_iload_n dJ3_checkIndex_8e157_16 rfl rfl ?_
  refine w_iret dJ3_checkIndex_8e157_17 (fun _ e => by cases e; rfl) ?_
  exact k

set_option maxRecDepth 20000 in
set_option maxHeartbeats 4000000 in
theorem T_jck {X : Nat × (Nat → Int32)} {h : PH} {Q : Option Value → PH → Prop} {i n : Int32} (h1 : ¬ i < 0) (h2 : i < n) (k : Q none h) : WP X mJ0_checkIndex_df160 1 22 0 (en 2 [.int i, .int n]) [] h Q := by
  refine w_iload_n dJ0_checkIndex_df160_0 rfl rfl ?_
  refine w_iload_n dJ0_checkIndex_df160_1 rfl rfl ?_
  refine w_callQ (d2 := 0) (L2 := 0) (M2 := mJ3_checkIndex_8e157) (As := [.int i, .int n]) (rest := []) dJ0_checkIndex_df160_2 dJ0_checkIndex_df160_5 List.mem_cons_self gJ0_1053 oJ3_checkIndex_8e157 (tg 439 (by decide +kernel) (by decide +kernel)) tJ3_checkIndex_8e157 (tg 16 (by decide +kernel) (by decide +kernel)) rfl rfl (fun v hv => by simp only [List.mem_cons, List.not_mem_nil, or_false] at hv; rcases hv with e | e <;> rw [e] <;> rfl) (Nat.le_of_ble_eq_true rfl) (by decide) (by decide) (by decide) ?_
  refine T_jck3 h1 h2 ?_
  refine k_i rfl ?_
  refine w_pop dJ0_checkIndex_df160_8 rfl ?_
  refine w_vret dJ0_checkIndex_df160_9 ?_
  exact k

set_option maxRecDepth 20000 in
set_option maxHeartbeats 4000000 in
theorem T_jcod {X : Nat × (Nat → Int32)} {h : PH} {Q : Option Value → PH → Prop} {j : Nat} (hj : j < 60) (k : Q (some (.int 0)) h) : WP X mJ0_coder_7d493 0 0 0 (en 1 [.ref (1001000 + j)]) [] h Q := by
  refine w_cstat dJ0_coder_7d493_0 kZ_c9 gJ0_38 ?_
  refine w_if_eq (tgt := 13) dJ0_coder_7d493_3 (by decide) (fun c => absurd c (by decide)) (fun _ => ?_)
  refine w_aload_n dJ0_coder_7d493_6 rfl rfl ?_
  refine w_cget dJ0_coder_7d493_7 (kF_c9 hj) gJ0_15 ?_
  refine w_goto (tgt := 14) dJ0_coder_7d493_10 (by decide) ?_
  refine w_iret dJ0_coder_7d493_14 (fun _ e => by cases e; rfl) ?_
  exact k
theorem T_jlat {X : Nat × (Nat → Int32)} {h : PH} {Q : Option Value → PH → Prop} {j : Nat} (hj : j < 60) (k : Q (some (.int 1)) h) : WP X mJ0_isLatin1_aae02 0 0 0 (en 1 [.ref (1001000 + j)]) [] h Q := by
  refine w_cstat dJ0_isLatin1_aae02_0 kZ_c9 gJ0_38 ?_
  refine w_if_eq (tgt := 17) dJ0_isLatin1_aae02_3 (by decide) (fun c => absurd c (by decide)) (fun _ => ?_)
  refine w_aload_n dJ0_isLatin1_aae02_6 rfl rfl ?_
  refine w_cget dJ0_isLatin1_aae02_7 (kF_c9 hj) gJ0_15 ?_
  refine w_if_ne (tgt := 17) dJ0_isLatin1_aae02_10 (by decide) (fun c => absurd rfl c) (fun _ => ?_)
  refine w_iconst dJ0_isLatin1_aae02_13 (v := 1) (by decide) ?_
  refine w_goto (tgt := 18) dJ0_isLatin1_aae02_14 (by decide) ?_
  refine w_iret dJ0_isLatin1_aae02_18 (fun _ e => by cases e; decide) ?_
  exact k
/-- the bytes of a text, by its number -/
def sB (j : Nat) : List Int32 := strB.getD j []
theorem sB_ok : ∀ j, j < 60 → (sB j).length < 2147483648 ∧ (sB j).all (fun b => decide (((b &&& 255).toUInt32 % 65536).toInt32 = b) && decide (b.toUInt32.toUInt16.toUInt32.toInt32 = b)) = true := by decide +kernel
theorem sB_b {j i : Nat} (hj : j < 60) (hi : i < (sB j).length) : ((((sB j).getD i 0) &&& 255).toUInt32 % 65536).toInt32 = (sB j).getD i 0 ∧ ((sB j).getD i 0).toUInt32.toUInt16.toUInt32.toInt32 = (sB j).getD i 0 := by
  have hb := List.all_eq_true.mp (sB_ok j hj).2 ((sB j).getD i 0) (by rw [List.getD_eq_getElem?_getD, List.getElem?_eq_getElem hi]; exact List.getElem_mem hi)
  simpa only [Bool.and_eq_true, decide_eq_true_eq] using hb
theorem T_slen {X : Nat × (Nat → Int32)} {h : PH} {Q : Option Value → PH → Prop} {j : Nat} (hj : j < 60) (k : Q (some (.int (nI (sB j).length))) h) : WP X mJ0_length_8abf5 1 20 0 (en 1 [.ref (1001000 + j)]) [] h Q := by
  refine w_aload_n dJ0_length_8abf5_0 rfl rfl ?_
  refine w_cget dJ0_length_8abf5_1 (kF_v9 hj) gJ0_9 ?_
  refine w_clen (v := nI (sB j).length) dJ0_length_8abf5_4 (kT_s9 hj) (by rw [List.length_map]; rfl) ?_
  refine w_aload_n dJ0_length_8abf5_5 rfl rfl ?_
  refine w_callC (d2 := 0) (L2 := 0) (M2 := mJ0_coder_7d493) (As := []) dJ0_length_8abf5_6 oJ0_coder_7d493 lJ0_335 iJ0_coder_7d493 sJ0_coder_7d493 (kO_s9 hj) rfl rfl (fun v hv => by cases hv) (by decide) (Nat.le_of_ble_eq_true rfl) (by decide) (by decide) ?_
  refine T_jcod hj ?_
  refine k_i rfl ?_
  refine w_ishr dJ0_length_8abf5_9 ?_
  refine w_iret dJ0_length_8abf5_10 (fun _ e => by cases e; rfl) ?_
  rw [show (nI (sB j).length) >>> ((0 : Int32) &&& 31) = nI (sB j).length from Int32.shiftRight_zero]; exact k
theorem T_jch1 {X : Nat × (Nat → Int32)} {h : PH} {Q : Option Value → PH → Prop} {j i : Nat} (hj : j < 60) (hi : i < (sB j).length) (k : Q (some (.int ((sB j).getD i 0))) h) : WP X mJ1_charAt_3b067 2 43 0 (en 2 [.ref (1002000 + j), .int (nI i)]) [] h Q := by
  have hl := (sB_ok j hj).1
  refine w_iload_n dJ1_charAt_3b067_0 rfl rfl ?_
  refine w_aload_n dJ1_charAt_3b067_1 rfl rfl ?_
  refine w_clen (v := nI (sB j).length) dJ1_charAt_3b067_2 (kT_s9 hj) (by rw [List.length_map]; rfl) ?_
  refine w_s2 (d2 := 1) (L2 := 22) dJ1_charAt_3b067_3 vJ1_9 rfl rfl (by decide) (Nat.le_of_ble_eq_true rfl) (by decide) (by decide) ?_
  refine T_jck (nI_pos (by omega)) (nI_lt hi (by omega)) ?_
  refine k_v rfl ?_
  refine w_aload_n dJ1_charAt_3b067_6 rfl rfl ?_
  refine w_iload_n dJ1_charAt_3b067_7 rfl rfl ?_
  refine w_cbal (x := (sB j).getD i 0) dJ1_charAt_3b067_8 (kT_s9 hj) (by rw [List.length_map]; exact vp_in_nI (show i < (strB.getD j []).length from hi) (show (strB.getD j []).length < 2 ^ 31 from hl)) (by
    rw [nI_clamp (by omega), List.getD_eq_getElem?_getD, List.getElem?_map, List.getD_eq_getElem?_getD]
    show ((sB j)[i]?.map Value.int).getD .null = .int ((sB j)[i]?.getD 0)
    rw [List.getElem?_eq_getElem hi]; rfl) ?_
  refine w_sipush dJ1_charAt_3b067_9 (v := 255) (by decide) ?_
  refine w_iand dJ1_charAt_3b067_12 ?_
  refine w_i2c dJ1_charAt_3b067_13 (sB_b hj hi).1 ?_
  refine w_iret dJ1_charAt_3b067_14 (fun _ e => by cases e; exact congrArg Value.int (sB_b hj hi).2) ?_
  exact k
theorem T_char {X : Nat × (Nat → Int32)} {h : PH} {Q : Option Value → PH → Prop} {j i : Nat} (hj : j < 60) (hi : i < (sB j).length) (k : Q (some (.int ((sB j).getD i 0))) h) : WP X mJ0_charAt_5068e 3 64 0 (en 2 [.ref (1001000 + j), .int (nI i)]) [] h Q := by
  refine w_aload_n dJ0_charAt_5068e_0 rfl rfl ?_
  refine w_callC (d2 := 0) (L2 := 0) (M2 := mJ0_isLatin1_aae02) (As := []) dJ0_charAt_5068e_1 oJ0_isLatin1_aae02 lJ0_492 iJ0_isLatin1_aae02 sJ0_isLatin1_aae02 (kO_s9 hj) rfl rfl (fun v hv => by cases hv) (by decide) (Nat.le_of_ble_eq_true rfl) (by decide) (by decide) ?_
  refine T_jlat hj ?_
  refine k_i rfl ?_
  refine w_if_eq (tgt := 16) dJ0_charAt_5068e_4 (by decide) (fun c => absurd c (by decide)) (fun _ => ?_)
  refine w_aload_n dJ0_charAt_5068e_7 rfl rfl ?_
  refine w_cget dJ0_charAt_5068e_8 (kF_v9 hj) gJ0_9 ?_
  refine w_iload_n dJ0_charAt_5068e_11 rfl rfl ?_
  refine w_s2 (d2 := 2) (L2 := 43) dJ0_charAt_5068e_12 vJ0_495 rfl rfl (by decide) (Nat.le_of_ble_eq_true rfl) (by decide) (by decide) ?_
  refine T_jch1 hj hi ?_
  refine k_i rfl ?_
  refine w_iret dJ0_charAt_5068e_15 (fun _ e => by cases e; exact congrArg Value.int (sB_b hj hi).2) ?_
  exact k

