/-! ROWS OF THE PURE MACHINE: new cells -/
theorem okh_sN {h : PH} {z : Nat} (ho : okh h) : okh (sN h z) := by
  intro x j b hx e
  have e : (if x = hn h then none else hR h x j) = some b := e
  by_cases e1 : x = hn h
  · rw [if_pos e1] at e; cases e
  · rw [if_neg e1] at e
    have hx : x < hn h + 1 := hx
    exact (ho x j b (by omega) e).mono (Nat.le_succ _)
theorem up_ok {n : Nat} (hlt : n < 1000000) (ad : Nat → Nat) (q : Nat) : ∀ a, okr n a → va_up ad n q a = ad a := fun a ha => va_up_ne ad q (fun e => by subst e; rcases ha with h | h <;> omega)
theorem ce_sN {cy : Nat → ClassId} {ad : Nat → Nat} {h : PH} {z b : Nat} (e : b ≠ hn h) : ce cy ad (sN h z) b = ce cy ad h b := by
  have h1 : hI (sN h z) b = hI h b := by funext j; show (if b = hn h then 0 else hI h b j) = _; rw [if_neg e]
  have h2 : hL (sN h z) b = hL h b := by funext j; show (if b = hn h then 0 else hL h b j) = _; rw [if_neg e]
  have h3 : hR (sN h z) b = hR h b := by funext j; show (if b = hn h then none else hR h b j) = _; rw [if_neg e]
  have h4 : fv ad (sN h z) b (kd b) = fv ad h b (kd b) := by funext j; unfold fv; rw [h1, h2, h3]
  unfold ce; rw [h1, h2, h3, h4]
theorem wd_new {cy : Nat → ClassId} {ad : Nat → Nat} {h : PH} (ho : okh h) (hlt : hn h < 1000000) (q z : Nat) : wd cy (va_up ad (hn h) q) (sN h z) = wd cy ad h ++ [(q, ce cy (va_up ad (hn h) q) (sN h z) (hn h))] := by
  show (List.range (hn h + 1)).map _ = _
  rw [List.range_succ, List.map_append]
  congr 1
  · apply List.map_congr_left
    intro a ha
    have ha := List.mem_range.mp ha
    rw [ce_sN (Nat.ne_of_lt ha), ce_ext ho (up_ok hlt ad q) ha, up_ok hlt ad q a (Or.inl ha)]
  · show [(va_up ad (hn h) q (hn h), _)] = _
    rw [va_up_self]
theorem Rt.new {X : Nat × (Nat → Int32)} {M : MR} {d L pc pc' z : Nat} {ls : List (Option Value)} {st st' : List Value} {h : PH} {r : Option Value} {hE : PH} (hlt : hn h < 1000000) (hst : okS (hn h) st → okS (hn h) st')
    (w : ∀ (p : Program) (l : Launch) (e : Env) (R : Room) (s : State) (m : MethodId) (args : Array Value) (below : List Frame) (meth : Method) (c : Code) (H : Heap) (locs : List Loc) (cells slots : Nat) (Q : State → Prop) (ad : Nat → Nat) (cls : Array Slot) (cy : Nat → ClassId) (D : va_G) (A : Nat → Prop),
      p.tables.exec = Jvm.exec → c.code = M.2.1 → Cx X M cy D ad A p s m args meth c → Rp cy D ad h A s.heap H locs → cells + 1 ≤ R.cells → slots + z ≤ R.slots →
      (∀ q H', va_P D vwCl (wd cy ad h ++ [(q, ce cy (va_up ad (hn h) q) (sN h z) (hn h))]) H' → va_D A (wd cy ad h ++ [(q, ce cy (va_up ad (hn h) q) (sN h z) (hn h))]) → va_S A s.heap H' locs → W p l e R s m args below meth c H' locs (cells + 1) (slots + z) Q (F0 m pc' cls (.ref q :: st'.map (cv ad)))) →
      W p l e R s m args below meth c H locs cells slots Q (F0 m pc cls (st.map (cv ad))))
    (k : Rt X M d L pc' ls (.ref (hn h) :: st') (sN h z) r hE) : Rt X M d L pc ls st h r hE := by
  obtain ⟨k1, k2, k3, k4⟩ := k
  have k1 : hn h + 1 ≤ hn hE := k1
  have k2 : hc h + 1 ≤ hc hE := k2
  have k3 : hs h + z ≤ hs hE := k3
  refine ⟨by omega, by omega, by omega, ?_⟩
  intro p l e R s m args below meth c cy D A ad H locs cls c0 s0 Qf hC hd hL h1 h2 h3 h4 hRp hP hS hEnd
  refine w p l.1 e R s m args below meth c H locs _ _ Qf ad cls cy D A hC.1 hC.2.1 hC hRp (by omega) (by omega) (fun q H' b1 b2 b3 => ?_)
  have he := up_ok hlt ad q
  have hst' := hst hS
  have hR' : Rp cy D (va_up ad (hn h) q) (sN h z) A s.heap H' locs := by
    refine ⟨?_, ?_, b3, okh_sN hRp.2.2.2⟩
    · rw [wd_new hRp.2.2.2 hlt]; exact b1
    · rw [wd_new hRp.2.2.2 hlt]; exact b2
  have hP' : PL (hn (sN h z)) (va_up ad (hn h) q) M.2.2.1 ls cls := ⟨hP.1, hP.2.1, fun i v hv => ⟨(hP.2.2 i v hv).1, (hP.2.2 i v hv).2.1.mono (Nat.le_succ _), by rw [cv_ext he (hP.2.2 i v hv).2.1]; exact (hP.2.2 i v hv).2.2⟩⟩
  have hS' : okS (hn (sN h z)) (.ref (hn h) :: st') := okS.cons (fun a e => by cases e; exact Or.inl (Nat.lt_succ_self _)) (fun v hv => (hst' v hv).mono (Nat.le_succ _))
  have := k4 p l e R s m args below meth c cy D A (va_up ad (hn h) q) H' locs cls c0 s0 Qf (hC.ext he) hd hL h1 h2 (Nat.le_trans h3 (Nat.le_succ _)) (Nat.le_trans h4 (Nat.le_add_right _ _)) hR' hP' hS'
    (fun ad' H2 locs2 cls2 pcE g1 g2 g3 g4 g5 => hEnd ad' H2 locs2 cls2 pcE (fun a ha => (g1 a (ha.mono (Nat.le_succ _))).trans (he a ha)) g2 g3 g4 g5)
  have e1 : hc (sN h z) - c0 = hc h - c0 + 1 := by show hc h + 1 - c0 = _; omega
  have e2 : hs (sN h z) - s0 = hs h - s0 + z := by show hs h + z - s0 = _; omega
  have e3 : (Value.ref (hn h) :: st').map (cv (va_up ad (hn h) q)) = .ref q :: st'.map (cv ad) := by
    rw [List.map_cons]
    congr 1
    · show Value.ref (va_up ad (hn h) q (hn h)) = _; rw [va_up_self]
    · exact List.map_congr_left (fun v hv => cv_ext he (hst' v hv))
  rw [e1, e2, e3] at this
  exact this
section NR
variable {X : Nat × (Nat → Int32)} {M : MR} {d L pc : Nat} {ls : List (Option Value)} {st : List Value} {h : PH} {Q : Option Value → PH → Prop}
theorem w_new {idx ci : Nat} {C : String} {T : u_T} {N : Nat} (hd : decode M.2.1 pc = .ok (.new idx, 3)) (hcl : CL ci C T N) (hw : Jvm.Cond.classLink M.1 idx C ∈ Tg) (hw2 : Jvm.Cond.instantiable C N ∈ Tg) (hw3 : Jvm.Cond.initialized C ∈ Tg) (hk : kd (hn h) = ci) (hlt : hn h < 1000000) (kk : WP X M d L (pc + 3) ls (.ref (hn h) :: st) (sN h N) Q) : WP X M d L pc ls st h Q := by
  obtain ⟨q1, q2, q3, ⟨ty0, q4, q5⟩, q6, q7⟩ := hcl
  refine WP.mp (fun _ _ => Rt.new (z := N) hlt (fun h => h) (fun p l e R s m args below meth c H locs cells slots Q ad cls cy D A hx hb hC hRp c1 c2 kk => ?_)) kk
  refine va_new (D := D) (cl := vwCl) (ws := wd cy ad h) (ci := ci) (C := C) (T := T) (N := N) (fs := (List.range (nF ci)).map (fv (va_up ad (hn h) 0) (sN h N) (hn h) ci)) hx hb hC.2.2.2.2.1 q7 ty0 q4 hC.2.2.2.1 (hC.2.2.2.2.1 _ hw) (hC.2.2.2.2.1 _ hw2) (hC.2.2.2.2.1 _ hw3) hC.2.2.2.2.2.2.2.2.1 hRp.1 hRp.2.1 hRp.2.2.1 hC.2.2.2.2.2.2.2.2.2.1 q1 (fun j hj => ?_) c1 c2 hd (fun q H' b1 b2 b3 => ?_)
  · rw [q5 j hj]
    unfold vp_V
    rw [List.getD_eq_getElem?_getD, List.getElem?_map, List.getElem?_range (by rw [q2]; exact hj)]
    show _ = fv (va_up ad (hn h) 0) (sN h N) (hn h) ci j
    unfold fv
    have z1 : hI (sN h N) (hn h) j = 0 := if_pos rfl
    have z2 : hL (sN h N) (hn h) j = 0 := if_pos rfl
    have z3 : hR (sN h N) (hn h) j = none := if_pos rfl
    rw [z1, z2, z3]; rfl
  · have e0 : (List.range (nF ci)).map (fv (va_up ad (hn h) 0) (sN h N) (hn h) ci) = (List.range (nF ci)).map (fv (va_up ad (hn h) q) (sN h N) (hn h) ci) := by
      apply List.map_congr_left
      intro j hj
      unfold fv
      have z3 : hR (sN h N) (hn h) j = none := if_pos rfl
      rw [z3]; rfl
    rw [e0, ← ce_o (cy := cy) (ad := va_up ad (hn h) q) (h := sN h N) hk q3] at b1 b2
    exact kk q H' b1 b2 b3
theorem w_newa {atype : ArrayType} {n : Int32} {N t : Nat} {ty : FieldType} {a0 : PH → Nat → vp_A} (hd : decode M.2.1 pc = .ok (.newarray atype, 2)) (hty : newarray.typeOf atype = ty) (hw : Jvm.Cond.arrayClass ty ∈ Tg) (ht : ∀ cy, (ctys cy)[t]? = some (cy t, ty)) (hra : ∀ (U : State) (cA : ClassId), va_RA U cA ty → U.vm.findClass ("[" ++ ty.toString) = some cA)
    (hce : ∀ cy ad (h : PH), ce cy ad h (hn h) = ce cy ad h (hn h)) (hcell : ∀ (cy : Nat → ClassId) (ad : Nat → Nat), ce cy ad (sN h N) (hn h) = .inl (cy t, a0 h N)) (ha : ∀ cA : ClassId, vp_cell cA (a0 h N) = arrV cA N (fun _ => defaultValue ty)) (hn0 : ¬ n < 0) (hN : n.toNatClampNeg = N) (hby : N * componentBytes ty ≤ 536870912) (hlt : hn h < 1000000) (kk : WP X M d L (pc + 2) ls (.ref (hn h) :: st) (sN h N) Q) : WP X M d L pc ls (.int n :: st) h Q := by
  refine WP.mp (fun _ _ => Rt.new (z := N) hlt (fun h => okS.tl h) (fun p l e R s m args below meth c H locs cells slots Q ad cls cy D A hx hb hC hRp c1 c2 kk => ?_)) kk
  refine va_newa (D := D) (cl := vwCl) (ws := wd cy ad h) (a0 := a0 h N) hx hb (by rw [hty]; exact hC.2.2.2.2.1 _ hw) hty hC.2.2.2.2.2.2.2.2.1 hRp.1 hRp.2.1 hRp.2.2.1 hC.2.2.2.2.2.2.2.2.2.1 ha hn0 hN hby c1 c2 hd (fun q cA H' k1 b1 b2 b3 => ?_)
  have e1 : s.vm.findClass ("[" ++ ty.toString) = some cA := hra s cA (k1.2 4 (cA, ty) (by rw [List.getElem?_append_right (by simp [ctys])]; simp [ctys])).2
  have e2 : s.vm.findClass ("[" ++ ty.toString) = some (cy t) := hra s (cy t) (hC.2.2.2.2.2.2.2.2.1.2 t _ (ht cy)).2
  have e3 : cA = cy t := Option.some.inj (e1.symm.trans e2)
  subst e3
  rw [← hcell cy (va_up ad (hn h) q)] at b1 b2
  exact kk q H' b1 b2 b3
theorem fz {α : Type} {β : Nat → α} {z : α} (h : ∀ j, β j = z) : β = fun _ => z := funext h
theorem w_newI {n : Int32} {N : Nat} (hd : decode M.2.1 pc = .ok (.newarray .int, 2)) (hw : Jvm.Cond.arrayClass .int ∈ Tg) (hk : kd (hn h) = 12) (hl : ln (hn h) = N) (hn0 : ¬ n < 0) (hN : n.toNatClampNeg = N) (hby : N * 4 ≤ 536870912) (hlt : hn h < 1000000) (kk : WP X M d L (pc + 2) ls (.ref (hn h) :: st) (sN h N) Q) : WP X M d L pc ls (.int n :: st) h Q :=
  w_newa (t := 1) (ty := .int) (a0 := fun _ N => (N, .inl (fun _ => 0))) hd rfl hw (fun _ => rfl) (fun _ _ h => h) (fun _ _ _ => rfl) (fun cy ad => by rw [ce_i hk, hl, show hI (sN h N) (hn h) = fun _ => 0 from fz (fun j => if_pos rfl)]) (fun _ => rfl) hn0 hN hby hlt kk
theorem w_newB {n : Int32} {N : Nat} (hd : decode M.2.1 pc = .ok (.newarray .byte, 2)) (hw : Jvm.Cond.arrayClass .byte ∈ Tg) (hk : kd (hn h) = 11) (hl : ln (hn h) = N) (hn0 : ¬ n < 0) (hN : n.toNatClampNeg = N) (hby : N * 1 ≤ 536870912) (hlt : hn h < 1000000) (kk : WP X M d L (pc + 2) ls (.ref (hn h) :: st) (sN h N) Q) : WP X M d L pc ls (.int n :: st) h Q :=
  w_newa (t := 0) (ty := .byte) (a0 := fun _ N => (N, .inl (fun _ => 0))) hd rfl hw (fun _ => rfl) (fun _ _ h => h) (fun _ _ _ => rfl) (fun cy ad => by rw [ce_b hk, hl, show hI (sN h N) (hn h) = fun _ => 0 from fz (fun j => if_pos rfl)]) (fun _ => rfl) hn0 hN hby hlt kk
theorem w_newL {n : Int32} {N : Nat} (hd : decode M.2.1 pc = .ok (.newarray .long, 2)) (hw : Jvm.Cond.arrayClass .long ∈ Tg) (hk : kd (hn h) = 13) (hl : ln (hn h) = N) (hn0 : ¬ n < 0) (hN : n.toNatClampNeg = N) (hby : N * 8 ≤ 536870912) (hlt : hn h < 1000000) (kk : WP X M d L (pc + 2) ls (.ref (hn h) :: st) (sN h N) Q) : WP X M d L pc ls (.int n :: st) h Q :=
  w_newa (t := 2) (ty := .long) (a0 := fun _ N => (N, .inr (.inl (fun _ => 0)))) hd rfl hw (fun _ => rfl) (fun _ _ h => h) (fun _ _ _ => rfl) (fun cy ad => by rw [ce_l hk, hl, show hL (sN h N) (hn h) = fun _ => 0 from fz (fun j => if_pos rfl)]) (fun _ => rfl) hn0 hN hby hlt kk
theorem w_newR {idx : Nat} {n : Int32} {N : Nat} (hd : decode M.2.1 pc = .ok (.anewarray idx, 3)) (hw : Jvm.Cond.classLink M.1 idx "[I" ∈ Tg) (hk : kd (hn h) = 14) (hl : ln (hn h) = N) (hn0 : ¬ n < 0) (hN : n.toNatClampNeg = N) (hby : N * 4 ≤ 536870912) (hlt : hn h < 1000000) (kk : WP X M d L (pc + 3) ls (.ref (hn h) :: st) (sN h N) Q) : WP X M d L pc ls (.int n :: st) h Q := by
  subst hN
  refine WP.mp (fun _ _ => Rt.new (z := n.toNatClampNeg) hlt (fun h => okS.tl h) (fun p l e R s m args below meth c H locs cells slots Q ad cls cy D A hx hb hC hRp c1 c2 kk => ?_)) kk
  refine W.anewA (t := .int) hx hb hC.2.2.2.1 (hC.2.2.2.2.1 _ hw) (AA.use hC.2.2.2.2.2.2.2.2.2.2.2.1) rfl hd rfl hn0 hby c1 c2 fun cA kA comp f1 f2 f3 f4 => ?_
  generalize hH1 : H.push ({ cls := cA, slots := Array.replicate n.toNatClampNeg .null, vm := .none } : Cell) = H1
  have z1 : H1.size = H.size + 1 := by rw [← hH1, Array.size_push]
  have e1 : H1[H.size]? = some (arrV cA n.toNatClampNeg (fun _ => .null)) := by rw [← hH1, Array.getElem?_push_size, ← arrV_new]
  have o1 : ∀ q : Nat, q < H.size → H1[q]? = H[q]? := fun q hq => by rw [← hH1, Array.getElem?_push, if_neg (Nat.ne_of_lt hq)]
  have hk2 : ∀ (k : Nat) (x : Nat × va_E), (wd cy ad h)[k]? = some x → H1[x.1]? = H[x.1]? := fun k x hx => o1 x.1 ((hRp.1 k x hx).lt)
  have e3 : cA = cy 3 := Option.some.inj (f1.symm.trans (hC.2.2.2.2.2.2.2.2.1.2 3 _ rfl).2)
  have ec : ce cy (va_up ad (hn h) H.size) (sN h n.toNatClampNeg) (hn h) = .inl (cA, n.toNatClampNeg, .inr (.inr (.inr (.inr (fun _ => none))))) := by
    rw [ce_r hk, hl, e3]
    congr 7
    funext j
    have z3 : hR (sN h n.toNatClampNeg) (hn h) j = none := if_pos rfl
    rw [z3]; rfl
  have hA := hC.2.2.2.2.2.2.2.2.2.1
  refine kk H.size H1 ((hRp.1.kept hk2).app (fun k x hx => ?_)) (hRp.2.1.push hRp.1 rfl (hA _ hRp.2.2.1.1)) ⟨Nat.le_trans hRp.2.2.1.1 (by omega), fun x h1 h2 => (o1 x (Nat.lt_of_lt_of_le h1 hRp.2.2.1.1)).trans (hRp.2.2.1.2.1 x h1 h2), hRp.2.2.1.2.2⟩
  have hz : k < 1 := (List.getElem?_eq_some_iff.mp hx).1
  rw [show k = 0 by omega] at hx
  cases hx
  rw [ec]
  show H1[H.size]? = some (vp_cell _ _)
  rw [vp_cell_q]
  exact e1
theorem w_aastore {a b : Nat} {i : Int32} (hd : decode M.2.1 pc = .ok (.aastore, 1)) (hk : kd a = 14) (ha : a < hn h) (hkb : kd b = 12) (hb9 : b < hn h) (hin : vp_in i (ln a)) (kk : WP X M d L (pc + 1) ls st (sR h a i.toNatClampNeg (some b)) Q) : WP X M d L pc ls (.ref b :: .int i :: .ref a :: st) h Q :=
  WP.mp (fun _ _ => Rt.put (h' := sR h a i.toNatClampNeg (some b)) rfl rfl rfl (fun p l e R s m args below meth c H locs cells slots Q ad cls cy D A hx hb hC hRp hS kk => by
    have hlt : i.toNatClampNeg < ln a := Nat.not_le.mp fun q => hin (Or.inr q)
    have h0 : ¬ i < 0 := fun q => hin (Or.inl q)
    have hca : va_at D vwCl (ad a, ce cy ad h a) H := hRp.1 a _ (wd_get ha)
    have hcb : va_at D vwCl (ad b, ce cy ad h b) H := hRp.1 b _ (wd_get hb9)
    rw [ce_r hk] at hca
    rw [ce_i hkb] at hcb
    have hca : H[ad a]? = some (vp_cell (cy 3) (ln a, .inr (.inr (.inr (.inr (fun j => (hR h a j).map ad)))))) := hca
    have hcb : H[ad b]? = some (vp_cell (cy 1) (ln b, .inl (hI h b))) := hcb
    obtain ⟨comp, cA, kA, g1, g2, g3, g4, g5⟩ := arrayOverA_spec (AA.use (A := args) hC.2.2.2.2.2.2.2.2.2.2.2.1)
    have e3 : cA = cy 3 := Option.some.inj (g5.symm.trans (hC.2.2.2.2.2.2.2.2.1.2 3 _ rfl).2)
    have e4 : comp = cy 1 := Option.some.inj (g1.symm.trans (hC.2.2.2.2.2.2.2.2.1.2 1 _ rfl).2)
    subst e3; subst e4
    obtain ⟨kI, hkI, -⟩ := Vm.findClass_spec g1
    have hset : (wd cy ad h).set a (ad a, .inl (cy 3, ln a, .inr (.inr (.inr (.inr (va_up (fun j => (hR h a j).map ad) i.toNatClampNeg (some (ad b)))))))) = wd cy ad (sR h a i.toNatClampNeg (some b)) := by
      rw [show va_up (fun j => (hR h a j).map ad) i.toNatClampNeg (some (ad b)) = (fun j => (hR (sR h a i.toNatClampNeg (some b)) a j).map ad) from by
        funext j
        show _ = (up2 (hR h) a i.toNatClampNeg (some b) a j).map ad
        rw [up2_s]
        by_cases e : j = i.toNatClampNeg
        · simp [va_up, e]
        · simp [va_up, e], ← ce_r (cy := cy) (ad := ad) (h := sR h a i.toNatClampNeg (some b)) hk]
      exact wd_set rfl (fun b e => ce_sR e)
    refine W.aast hx hb hca (fun q h => by cases h) (fun h => by cases h) g3 g4 rfl hkI ⟨h0, by show _ < (arrV _ _ _).slots.size; rw [arrV_size]; exact hlt⟩ hcb (fun q h => by cases h) hkI (va_asg _ _) rfl rfl hd fun H1 e z oq => ?_
    have b1 : va_P D vwCl ((wd cy ad h).set a (ad a, .inl (cy 3, ln a, .inr (.inr (.inr (.inr (va_up (fun j => (hR h a j).map ad) i.toNatClampNeg (some (ad b))))))))) H1 := by
      refine hRp.1.set hRp.2.1 (wd_get ha) ?_ oq
      show H1[ad a]? = some (vp_cell _ _)
      rw [e, vp_cell_q, vp_cell_q, arrV_store]
      congr 2
      funext q
      by_cases hq : q = i.toNatClampNeg
      · subst hq; simp [updV, va_up, va_rf]
      · simp [updV, va_up, hq]
    have b2 := hRp.2.1.set (e := .inl (cy 3, ln a, .inr (.inr (.inr (.inr (va_up (fun j => (hR h a j).map ad) i.toNatClampNeg (some (ad b)))))))) (wd_get (cy := cy) (ad := ad) ha)
    rw [hset] at b1 b2
    exact kk H1 _ ⟨b1, b2, hRp.2.2.1.put z oq (hRp.2.1.2 a _ (wd_get ha)), okh_sR hRp.2.2.2 (fun x e => by cases e; exact Or.inl hb9)⟩ (okS.tl (okS.tl (okS.tl hS))))) kk
end NR
