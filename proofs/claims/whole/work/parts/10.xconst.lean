/-! ROWS OF THE PURE MACHINE: constants (Op's, texts, statics), the script, calls of their methods -/
theorem okv_big {n : Nat} {v : Value} (h : big v = true) : okv n v := fun a e => by subst e; exact Or.inr (by simpa [big] using h)
theorem kF_b {q : String × String × String × Value × Nat} (h : q ∈ kF) : big q.2.2.2.1 = true := by
  have := List.all_eq_true.mp kF_big q h
  simp only [Bool.and_eq_true] at this
  exact this.1
theorem kZ_b {q : String × String × String × Value} (h : q ∈ kZ) : big q.2.2.2 = true := List.all_eq_true.mp kZ_big q h
theorem kT_b {q : FieldType × Nat × List Value} (h : q ∈ kT) (j : Nat) : big (q.2.2.getD j .null) = true := by
  have := List.all_eq_true.mp kT_big q h
  simp only [Bool.and_eq_true] at this
  exact getD_big this.2 j
section XR
variable {X : Nat × (Nat → Int32)} {M : MR} {d L pc idx id : Nat} {ls : List (Option Value)} {st : List Value} {h : PH} {Q : Option Value → PH → Prop}
/-- getfield of a constant -/
theorem w_cget {o n dd : String} {v : Value} (hd : decode M.2.1 pc = .ok (.getfield idx, 3)) (hm : (o, n, dd, v, id) ∈ kF) (hw : Jvm.Cond.fieldLink M.1 idx o n dd ∈ Tg ∨ ∃ host, Jvm.Cond.fieldLinkNest M.1 idx o n dd host ∈ Tn) (kk : WP X M d L (pc + 3) ls (v :: st) h Q) : WP X M d L pc ls (.ref id :: st) h Q := by
  refine WP.mp (fun _ _ => Rt.pure (fun p l e R s m args below meth c H locs cells slots Q ad cls cy D A hx hb hC hRp hP hS kk => ?_)) kk
  have hE := hC.2.2.2.2.2.2.2.2.2.2.2.2.2.1 _ hm
  have k2 := kk cls hP (okS.cons (okv_big (kF_b hm)) (okS.tl hS))
  rcases hw with hw | ⟨host, hw⟩
  · exact vk_getf hx hb hE hRp.2.2.1 hC.2.2.2.1 (hC.2.2.2.2.1 _ hw) (fun _ h9 => h9) hd k2
  · obtain ⟨cf, k, fi, f, cell, h1, h2, h3, h4, h5, h6⟩ := hE.kept hRp.2.2.1.2.1
    exact va_Wgetf hx hb hC.2.2.2.1 (NW.use hC.2.2.2.2.2.2.2.2.2.2.1 hw) h1 h2 h3 h4 (v := cv ad v) h5 rfl rfl hd k2
/-- getstatic -/
theorem w_cstat {o n dd : String} {v : Value} (hd : decode M.2.1 pc = .ok (.getstatic idx, 3)) (hm : (o, n, dd, v) ∈ kZ) (hw : Jvm.Cond.fieldLink M.1 idx o n dd ∈ Tg ∨ ∃ host, Jvm.Cond.fieldLinkNest M.1 idx o n dd host ∈ Tn) (kk : WP X M d L (pc + 3) ls (v :: st) h Q) : WP X M d L pc ls st h Q := by
  refine WP.mp (fun _ _ => Rt.pure (fun p l e R s m args below meth c H locs cells slots Q ad cls cy D A hx hb hC hRp hP hS kk => ?_)) kk
  have hE := hC.2.2.2.2.2.2.2.2.2.2.2.2.2.2.1 _ hm
  have k2 := kk cls hP (okS.cons (okv_big (kZ_b hm)) hS)
  rcases hw with hw | ⟨host, hw⟩
  · exact va_gets hx hb hE hRp.2.2.1 hC.2.2.2.1 (hC.2.2.2.2.1 _ hw) (fun _ h9 => h9) hd k2
  · exact va_getsN hx hb hE hRp.2.2.1 hC.2.2.2.1 (NW.use hC.2.2.2.2.2.2.2.2.2.2.1 hw) (fun _ h9 => h9) hd k2
/-- baload of a text's bytes; aaload of Op's row; their lengths -/
theorem w_cbal {T : List Value} {i x : Int32} (hd : decode M.2.1 pc = .ok (.baload, 1)) (hm : (FieldType.byte, id, T) ∈ kT) (hin : vp_in i T.length) (hv : T.getD i.toNatClampNeg .null = .int x) (kk : WP X M d L (pc + 1) ls (.int x :: st) h Q) : WP X M d L pc ls (.int i :: .ref id :: st) h Q :=
  WP.mp (fun _ _ => Rt.pure (fun p l e R s m args below meth c H locs cells slots Q ad cls cy D A hx hb hC hRp hP hS kk => va_tb hx hb (hC.2.2.2.2.2.2.2.2.2.2.2.2.2.2.2.1 _ hm) hRp.2.2.1 hin (v := .int x) (by show cv ad (T.getD i.toNatClampNeg .null) = _; rw [hv]; rfl) hd (kk cls hP (okS.i (okS.tl (okS.tl hS)))))) kk
theorem w_caal {C : String} {T : List Value} {i : Int32} {v : Value} (hd : decode M.2.1 pc = .ok (.aaload, 1)) (hm : (FieldType.object C, id, T) ∈ kT) (hin : vp_in i T.length) (hv : T.getD i.toNatClampNeg .null = v) (kk : WP X M d L (pc + 1) ls (v :: st) h Q) : WP X M d L pc ls (.int i :: .ref id :: st) h Q :=
  WP.mp (fun _ _ => Rt.pure (fun p l e R s m args below meth c H locs cells slots Q ad cls cy D A hx hb hC hRp hP hS kk => vb_tq hx hb (hC.2.2.2.2.2.2.2.2.2.2.2.2.2.2.2.1 _ hm) hRp.2.2.1 hin (v := cv ad v) (by show cv ad (T.getD i.toNatClampNeg .null) = _; rw [hv]) hd (kk cls hP (okS.cons (okv_big (by rw [← hv]; exact kT_b hm _)) (okS.tl (okS.tl hS)))))) kk
theorem w_clen {ty : FieldType} {T : List Value} {v : Int32} (hd : decode M.2.1 pc = .ok (.arraylength, 1)) (hm : (ty, id, T) ∈ kT) (hv : Int32.ofNat T.length = v) (kk : WP X M d L (pc + 1) ls (.int v :: st) h Q) : WP X M d L pc ls (.ref id :: st) h Q :=
  WP.mp (fun _ _ => Rt.pure (fun p l e R s m args below meth c H locs cells slots Q ad cls cy D A hx hb hC hRp hP hS kk => va_tlen hx hb (hC.2.2.2.2.2.2.2.2.2.2.2.2.2.2.2.1 _ hm) hRp.2.2.1 hv hd (kk cls hP (okS.i (okS.tl hS))))) kk
/-- ldc of a text -/
theorem w_ldcS {tx : String} (hd : decode M.2.1 pc = .ok (.ldc idx, 2)) (hm : (M.1, idx, tx, id) ∈ kR) (kk : WP X M d L (pc + 2) ls (.ref id :: st) h Q) : WP X M d L pc ls st h Q :=
  WP.mp (fun _ _ => Rt.pure (fun p l e R s m args below meth c H locs cells slots Q ad cls cy D A hx hb hC hRp hP hS kk => va_ldcS hx hb hC.2.2.2.1 (hC.2.2.2.2.2.2.2.2.2.2.2.2.2.2.2.2.1 _ hm) hd (kk cls hP (okS.cons (okv_big (by simpa [big] using List.all_eq_true.mp kR_big _ hm)) hS)))) kk
/-- the script: an int of it, its length -/
theorem w_sld {i : Int32} (hd : decode M.2.1 pc = .ok (.iaload, 1)) (hin : vp_in i X.1) (kk : WP X M d L (pc + 1) ls (.int (X.2 i.toNatClampNeg) :: st) h Q) : WP X M d L pc ls (.int i :: .ref 1004000 :: st) h Q :=
  WP.mp (fun _ _ => Rt.pure (fun p l e R s m args below meth c H locs cells slots Q ad cls cy D A hx hb hC hRp hP hS kk => va_sld hx hb hC.2.2.2.2.2.2.2.2.2.2.2.2.2.2.2.2.2.2.2.1 hC.2.2.2.2.2.2.2.2.2.2.2.2.2.2.2.2.2.2.2.2.1 hC.2.2.2.2.2.2.2.2.2.2.2.2.2.2.2.2.2.2.2.2.2 hRp.2.2.1 hin hd (kk cls hP (okS.i (okS.tl (okS.tl hS)))))) kk
theorem w_slen (hd : decode M.2.1 pc = .ok (.arraylength, 1)) (kk : WP X M d L (pc + 1) ls (.int (Int32.ofNat X.1) :: st) h Q) : WP X M d L pc ls (.ref 1004000 :: st) h Q :=
  WP.mp (fun _ _ => Rt.pure (fun p l e R s m args below meth c H locs cells slots Q ad cls cy D A hx hb hC hRp hP hS kk => va_slen hx hb hC.2.2.2.2.2.2.2.2.2.2.2.2.2.2.2.2.2.2.2.1 hC.2.2.2.2.2.2.2.2.2.2.2.2.2.2.2.2.2.2.2.2.1 hC.2.2.2.2.2.2.2.2.2.2.2.2.2.2.2.2.2.2.2.2.2 hRp.2.2.1 hd (kk cls hP (okS.i (okS.tl hS))))) kk
/-- two of Op's constants compared -/
theorem w_acmpne {i j : Nat} {off : Int} {tgt : Nat} (hd : decode M.2.1 pc = .ok (.if_acmp .ne off, 3)) (ht : (pc : Int) + off = (tgt : Int)) (hi : i < 37) (hj : j < 37) (kt : i ≠ j → WP X M d L tgt ls st h Q) (kf : i = j → WP X M d L (pc + 3) ls st h Q) : WP X M d L pc ls (.ref (1000000 + j) :: .ref (1000000 + i) :: st) h Q := by
  by_cases e : i = j
  · refine WP.mp (fun _ _ => Rt.pure (fun p l e9 R s m args below meth c9 H locs cells slots Q ad cls cy D A hx hb hC hRp hP hS kk => ?_)) (kf e)
    exact lv_acmp_ne (rx := some (ad (1000000 + i))) (ry := some (ad (1000000 + j))) hx hb hd ht (fun n => absurd (by rw [e]) n) (fun _ => kk cls hP (okS.tl (okS.tl hS)))
  · refine WP.mp (fun _ _ => Rt.pure (fun p l e9 R s m args below meth c9 H locs cells slots Q ad cls cy D A hx hb hC hRp hP hS kk => ?_)) (kt e)
    exact lv_acmp_ne (rx := some (ad (1000000 + i))) (ry := some (ad (1000000 + j))) hx hb hd ht (fun _ => kk cls hP (okS.tl (okS.tl hS))) (fun n => absurd (hC.2.2.2.2.2.2.2.2.2.2.2.2.2.2.2.2.2.2.1 i j hi hj (Option.some.inj n)) e)
/-- putfield of a reference that may be null or a constant -/
theorem w_callC {M2 : MR} {n d2 L2 : Nat} {As rest : List Value} (hd : decode M.2.1 pc = .ok (.invokevirtual idx, 3)) (hm : Mok M2 n) (hl : LM M.1 idx M2.2.2.2.2) (hi : Jvm.Cond.instanceMethod M2.2.2.2.2 ∈ Tg) (hsl : Jvm.Cond.selects M2.1 M2.2.2.2.2 M2.2.2.2.2 ∈ Tg) (hO : (M2.1, id) ∈ kO)
    (hst : st = As.reverse ++ .ref id :: rest) (hn9 : As.length = n) (hc9 : ∀ v ∈ As, v.category = 1) (hle : As.length + 1 ≤ M2.2.2.1) (hrs : (rest.map fun v => v.category).sum ≤ 8) (hd2 : d2 + 1 ≤ d) (hL2 : 8 + (M2.2.2.1 + 11) + L2 ≤ L)
    (kk : WP X M2 d2 L2 0 (en M2.2.2.1 (.ref id :: As)) [] h (fun r h1 => rok M2 r ∧ WP X M d L (pc + 3) ls (r.toList ++ rest) h1 Q)) : WP X M d L pc ls st h Q := by
  obtain ⟨r, h1, hRt, hr, r', hE, hRt2, hQ⟩ := kk
  refine ⟨r', hE, ?_, hQ⟩
  have hoR : okS (hn h) st → okS (hn h) rest := fun ho v hv => ho v (by rw [hst]; exact List.mem_append_right _ (List.mem_cons_of_mem _ hv))
  have hoA : okS (hn h) st → okS (hn h) (.ref id :: As) := fun ho v hv => ho v (by
    rw [hst]
    rcases List.mem_cons.mp hv with e | e
    · exact List.mem_append_right _ (by rw [e]; exact List.mem_cons_self)
    · exact List.mem_append_left _ (List.mem_reverse.mpr e))
  refine Rt.call (r := r) (h1 := h1) ⟨hRt.1, hRt.2.1, hRt.2.2.1⟩ hoR (fun p l e R s m args below meth c H locs cells slots ad cls cy D A hC hdR hLR hRp hcs hS hf => ?_) hRt2
  have hMet := Met_of (l := l) hm hRt hr (fun v hv => by
    rcases List.mem_cons.mp hv with e | e
    · rw [e]; rfl
    · exact hc9 v e) (hoA hS) hle hRp.2.2.2 cy D ad H.size
  have hpre := (Pk_of hC hRp).2
  have hts := hC.2.2.2.2.1
  obtain ⟨cell, o1, o2, o3, o4⟩ := (hC.2.2.2.2.2.2.2.2.2.2.2.2.1 _ hO).kept hRp.2.2.1.2.1
  have hrc : ∃ cellB : Cell, H[ad id]? = some cellB ∧ cellB.vm.isStatics = false ∧ s.vm.findClass M2.1 = some cellB.cls := ⟨cell, o1, o2, o3⟩
  have hstk : (F0 m pc cls (st.map (cv ad))).stack = (As.map (cv ad)).reverse ++ .ref (ad id) :: rest.map (cv ad) := by
    show st.map (cv ad) = _
    rw [hst, List.map_append, List.map_reverse]; rfl
  have hrs' : 2 * (F0 m pc cls (st.map (cv ad))).monitorRoom + ((rest.map (cv ad)).map fun v => v.category).sum ≤ 8 := lv_room (by rw [List.map_map, show ((fun v : Value => v.category) ∘ cv ad) = fun v => v.category from funext (fun v => cv_cat ad v)]; exact hrs)
  have hPreV : PreV s H M2.1 (ad id) (va_Pc ((Value.ref id :: As).map (cv ad)) (Pk X cy D ad h H.size)) (As.map (cv ad)) := ⟨Pk_blind, hrc, fun U hU hW => ⟨rfl, hpre U hU hW⟩⟩
  refine ⟨(Value.ref (ad id) :: As.map (cv ad)).toArray, ?_⟩
  have hcls : M2.2.2.2.2.cls = M2.1 := hm.1
  rcases hl with hl | ⟨host, hl⟩
  · refine va_runV (As := As.map (cv ad)) (C := M2.1) (bytes := M2.2.1) (maxL := M2.2.2.1) (ret := M2.2.2.2.1) (nL := M.2.2.1) (n := n) (index := idx) (own := M.1) (Ts := Tg) ⟨hC.1, hC.2.1, hC.2.2.1, hC.2.2.2.1, hts⟩ hMet ?_ hPreV rfl (by rw [List.length_map]; exact hn9) hcs hstk hrs' hd hf
    exact ⟨callB_of n hts (good_ws (M := M) hm) rfl rfl rfl (by rw [hcls]; exact hts _ hm.2.2.2.2) (hts _ hl) (by rw [hcls]; exact hm.2.2.1) ⟨Nat.le_trans hd2 hdR, Nat.le_trans hL2 hLR⟩, hts _ hi, hts _ hsl⟩
  · refine va_runVN (As := As.map (cv ad)) (C := M2.1) (host := host) (bytes := M2.2.1) (maxL := M2.2.2.1) (ret := M2.2.2.2.1) (nL := M.2.2.1) (n := n) (index := idx) (own := M.1) (Ts := Tg) ⟨hC.1, hC.2.1, hC.2.2.1, hC.2.2.2.1, hts⟩ hMet ?_ hPreV rfl (by rw [List.length_map]; exact hn9) hcs hstk hrs' hd hf
    exact ⟨va_cnB n hts (good_ws (M := M) hm) rfl rfl rfl (hC.2.2.2.2.2.2.2.2.2.2.1 _ hl) (by rw [hcls]; exact hts _ hm.2.2.2.2) (by rw [hcls]; exact hm.2.2.1) ⟨Nat.le_trans hd2 hdR, Nat.le_trans hL2 hLR⟩, hts _ hi, hts _ hsl⟩
end XR
