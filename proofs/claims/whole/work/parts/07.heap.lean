/-! ROWS OF THE PURE MACHINE: fields, arrays, what is new -/
/-- a field's value, as the pure heap has it -/
def fa (h : PH) (a c k : Nat) : Value := if fk c k = 0 then .int (hI h a k) else if fk c k = 1 then .long (hL h a k) else va_rf (hR h a k)
theorem cv_fa (ad : Nat → Nat) (h : PH) (a c k : Nat) : cv ad (fa h a c k) = fv ad h a c k := by
  unfold fa fv
  by_cases e : fk c k = 0
  · rw [if_pos e, if_pos e]; rfl
  · rw [if_neg e, if_neg e]
    by_cases e2 : fk c k = 1
    · rw [if_pos e2, if_pos e2]; rfl
    · rw [if_neg e2, if_neg e2, cv_rf]
theorem ok_fa {h : PH} (ho : okh h) {a c k : Nat} (ha : a < hn h) : okv (hn h) (fa h a c k) := by
  unfold fa
  by_cases e : fk c k = 0
  · rw [if_pos e]; exact okv_int _ _
  · rw [if_neg e]
    by_cases e2 : fk c k = 1
    · rw [if_pos e2]; exact okv_long _ _
    · rw [if_neg e2]
      cases e3 : hR h a k with
      | none => exact okv_null _
      | some b => intro x hx; cases hx; exact ho a k b ha e3
theorem ce_o {cy : Nat → ClassId} {ad : Nat → Nat} {h : PH} {a c : Nat} (hk : kd a = c) (hc : c < 11) : ce cy ad h a = .inr (c, (List.range (nF c)).map (fv ad h a c)) := by
  subst hk; unfold ce; rw [if_pos hc]
theorem ce_b {cy : Nat → ClassId} {ad : Nat → Nat} {h : PH} {a : Nat} (hk : kd a = 11) : ce cy ad h a = .inl (cy 0, ln a, .inl (hI h a)) := by simp [ce, hk]
theorem ce_i {cy : Nat → ClassId} {ad : Nat → Nat} {h : PH} {a : Nat} (hk : kd a = 12) : ce cy ad h a = .inl (cy 1, ln a, .inl (hI h a)) := by simp [ce, hk]
theorem ce_l {cy : Nat → ClassId} {ad : Nat → Nat} {h : PH} {a : Nat} (hk : kd a = 13) : ce cy ad h a = .inl (cy 2, ln a, .inr (.inl (hL h a))) := by simp [ce, hk]
theorem ce_r {cy : Nat → ClassId} {ad : Nat → Nat} {h : PH} {a : Nat} (hk : kd a = 14) : ce cy ad h a = .inl (cy 3, ln a, .inr (.inr (.inr (.inr (fun j => (hR h a j).map ad))))) := by simp [ce, hk]
theorem up2_s {α : Type} (f : Nat → Nat → α) (a k : Nat) (v : α) : up2 f a k v a = fun j => if j = k then v else f a j := by funext j; simp [up2]
theorem up2_o {α : Type} (f : Nat → Nat → α) {a b : Nat} (k : Nat) (v : α) (e : b ≠ a) : up2 f a k v b = f b := by funext j; simp [up2, e]
theorem ce_sI {cy : Nat → ClassId} {ad : Nat → Nat} {h : PH} {a b k : Nat} {v : Int32} (e : b ≠ a) : ce cy ad (sI h a k v) b = ce cy ad h b := by
  have h1 : hI (sI h a k v) b = hI h b := up2_o _ _ _ e
  have h2 : fv ad (sI h a k v) b (kd b) = fv ad h b (kd b) := by funext j; unfold fv; rw [h1]; rfl
  unfold ce; rw [h2, h1]; rfl
theorem ce_sL {cy : Nat → ClassId} {ad : Nat → Nat} {h : PH} {a b k : Nat} {v : Int64} (e : b ≠ a) : ce cy ad (sL h a k v) b = ce cy ad h b := by
  have h1 : hL (sL h a k v) b = hL h b := up2_o _ _ _ e
  have h2 : fv ad (sL h a k v) b (kd b) = fv ad h b (kd b) := by funext j; unfold fv; rw [h1]; rfl
  unfold ce; rw [h2, h1]; rfl
theorem ce_sR {cy : Nat → ClassId} {ad : Nat → Nat} {h : PH} {a b k : Nat} {v : Option Nat} (e : b ≠ a) : ce cy ad (sR h a k v) b = ce cy ad h b := by
  have h1 : hR (sR h a k v) b = hR h b := up2_o _ _ _ e
  have h2 : fv ad (sR h a k v) b (kd b) = fv ad h b (kd b) := by funext j; unfold fv; rw [h1]; rfl
  unfold ce; rw [h2, h1]; rfl
theorem rset {α : Type} (n k : Nat) (f g : Nat → α) (v : α) (hk : g k = v) (ho : ∀ j, j ≠ k → g j = f j) : ((List.range n).map f).set k v = (List.range n).map g := by
  apply List.ext_getElem?
  intro i
  rw [List.getElem?_set, List.getElem?_map, List.getElem?_map]
  by_cases hi : i < n
  · rw [List.getElem?_range hi]
    by_cases e : k = i
    · subst e; simp [hi, hk]
    · rw [if_neg e]; show some (f i) = some (g i); rw [ho i (Ne.symm e)]
  · have h1 : (List.range n)[i]? = none := List.getElem?_eq_none (by simp; omega)
    rw [h1]
    by_cases e : k = i
    · subst e; simp [hi]
    · rw [if_neg e]; rfl
theorem okh_sI {h : PH} {a k : Nat} {v : Int32} (ho : okh h) : okh (sI h a k v) := ho
theorem okh_sL {h : PH} {a k : Nat} {v : Int64} (ho : okh h) : okh (sL h a k v) := ho
theorem okh_sR {h : PH} {a k : Nat} {v : Option Nat} (ho : okh h) (hv : ∀ b, v = some b → okr (hn h) b) : okh (sR h a k v) := by
  intro x j b hx e
  have e : up2 (hR h) a k v x j = some b := e
  unfold up2 at e
  by_cases e1 : x = a
  · rw [if_pos e1] at e
    by_cases e2 : j = k
    · rw [if_pos e2] at e; exact hv b e
    · rw [if_neg e2] at e; exact ho x j b hx e
  · rw [if_neg e1] at e; exact ho x j b hx e
/-- an instruction that writes into a cell that is there -/
theorem Rt.put {X : Nat × (Nat → Int32)} {M : MR} {d L pc pc' : Nat} {ls : List (Option Value)} {st st' : List Value} {h h' : PH} {r : Option Value} {hE : PH} (hnn : hn h' = hn h) (hcc : hc h' = hc h) (hss : hs h' = hs h)
    (w : ∀ (p : Program) (l : Launch) (e : Env) (R : Room) (s : State) (m : MethodId) (args : Array Value) (below : List Frame) (meth : Method) (c : Code) (H : Heap) (locs : List Loc) (cells slots : Nat) (Q : State → Prop) (ad : Nat → Nat) (cls : Array Slot) (cy : Nat → ClassId) (D : va_G) (A : Nat → Prop),
      p.tables.exec = Jvm.exec → c.code = M.2.1 → Cx X M cy D ad A p s m args meth c → Rp cy D ad h A s.heap H locs → okS (hn h) st →
      (∀ H' locs', Rp cy D ad h' A s.heap H' locs' → okS (hn h) st' → W p l e R s m args below meth c H' locs' cells slots Q (F0 m pc' cls (st'.map (cv ad)))) → W p l e R s m args below meth c H locs cells slots Q (F0 m pc cls (st.map (cv ad))))
    (k : Rt X M d L pc' ls st' h' r hE) : Rt X M d L pc ls st h r hE := by
  obtain ⟨k1, k2, k3, k4⟩ := k
  rw [hnn] at k1; rw [hcc] at k2; rw [hss] at k3
  refine ⟨k1, k2, k3, ?_⟩
  intro p l e R s m args below meth c cy D A ad H locs cls c0 s0 Qf hC hd hL h1 h2 h3 h4 hR hP hS hEnd
  refine w p l.1 e R s m args below meth c H locs _ _ Qf ad cls cy D A hC.1 hC.2.1 hC hR hS (fun H' locs' hR' hS' => ?_)
  have := k4 p l e R s m args below meth c cy D A ad H' locs' cls c0 s0 Qf hC hd hL h1 h2 (by rw [hcc]; exact h3) (by rw [hss]; exact h4) hR' (by rw [hnn]; exact hP) (by rw [hnn]; exact hS') (by rw [hnn]; exact hEnd)
  rw [hcc, hss] at this
  exact this
section HR
variable {X : Nat × (Nat → Int32)} {M : MR} {d L pc : Nat} {ls : List (Option Value)} {st : List Value} {h : PH} {Q : Option Value → PH → Prop}
/-- getfield, of any kind -/
theorem w_getA {idx ci k a : Nat} {ty : FieldType} {f : Bool} (hd : decode M.2.1 pc = .ok (.getfield idx, 3)) (hf : FL M.1 idx ci k ty f) (hk : kd a = ci) (ha : a < hn h) (kk : WP X M d L (pc + 3) ls (fa h a ci k :: st) h Q) : WP X M d L pc ls (.ref a :: st) h Q := by
  obtain ⟨C, T, N, ⟨q1, q2, q3, ⟨ty0, q4, q5⟩, q6, q7⟩, g1, g2, g3, g4⟩ := hf
  refine WP.mp (fun _ _ => Rt.pure (fun p l e R s m args below meth c H locs cells slots Q ad cls cy D A hx hb hC hR hP hS kk => ?_)) kk
  have hv : ((List.range (nF ci)).map (fv ad h a ci))[k]? = some (cv ad (fa h a ci k)) := by
    rw [List.getElem?_map, List.getElem?_range (by rw [q2]; exact g1), cv_fa]; rfl
  have he : (wd cy ad h)[a]? = some (ad a, .inr (ci, (List.range (nF ci)).map (fv ad h a ci))) := by rw [wd_get ha, ce_o hk q3]
  have kk2 := kk cls hP (okS.cons (ok_fa hR.2.2.2 ha) (okS.tl hS))
  rcases g4 with g4 | ⟨host, g4⟩
  · exact va_get (D := D) (ci := ci) (C := C) (T := T) (N := N) hx hb hC.2.2.2.2.1 q7 hC.2.2.2.1 hC.2.2.2.2.2.2.2.2.1 hR.1 a he q1 k g1 (hC.2.2.2.2.1 _ g4) (fun _ h9 => h9) hv hd kk2
  · exact va_getN (D := D) (ci := ci) (C := C) (T := T) (N := N) hx hb hC.2.2.2.2.1 q7 hC.2.2.2.1 hC.2.2.2.2.2.2.2.2.1 hR.1 a he q1 k g1 (NW.use hC.2.2.2.2.2.2.2.2.2.2.1 g4) (fun _ h9 => h9) hv hd kk2
theorem w_getI {idx ci k a : Nat} {ty : FieldType} {f : Bool} (hd : decode M.2.1 pc = .ok (.getfield idx, 3)) (hf : FL M.1 idx ci k ty f) (h0 : fk ci k = 0) (hk : kd a = ci) (ha : a < hn h) (kk : WP X M d L (pc + 3) ls (.int (hI h a k) :: st) h Q) : WP X M d L pc ls (.ref a :: st) h Q :=
  w_getA hd hf hk ha (by unfold fa; rw [if_pos h0]; exact kk)
theorem w_getL {idx ci k a : Nat} {ty : FieldType} {f : Bool} (hd : decode M.2.1 pc = .ok (.getfield idx, 3)) (hf : FL M.1 idx ci k ty f) (h0 : fk ci k = 1) (hk : kd a = ci) (ha : a < hn h) (kk : WP X M d L (pc + 3) ls (.long (hL h a k) :: st) h Q) : WP X M d L pc ls (.ref a :: st) h Q :=
  w_getA hd hf hk ha (by unfold fa; rw [if_neg (by rw [h0]; decide), if_pos h0]; exact kk)
theorem w_getR {idx ci k a : Nat} {ty : FieldType} {f : Bool} {b : Nat} (hd : decode M.2.1 pc = .ok (.getfield idx, 3)) (hf : FL M.1 idx ci k ty f) (h0 : fk ci k = 2) (hk : kd a = ci) (ha : a < hn h) (hb : hR h a k = some b) (kk : WP X M d L (pc + 3) ls (.ref b :: st) h Q) : WP X M d L pc ls (.ref a :: st) h Q :=
  w_getA hd hf hk ha (by unfold fa; rw [if_neg (by rw [h0]; decide), if_neg (by rw [h0]; decide), hb]; exact kk)
theorem w_getQ {idx ci k a : Nat} {ty : FieldType} {f : Bool} (hd : decode M.2.1 pc = .ok (.getfield idx, 3)) (hf : FL M.1 idx ci k ty f) (h0 : fk ci k = 2) (hk : kd a = ci) (ha : a < hn h) (kk : WP X M d L (pc + 3) ls (va_rf (hR h a k) :: st) h Q) : WP X M d L pc ls (.ref a :: st) h Q :=
  w_getA hd hf hk ha (by unfold fa; rw [if_neg (by rw [h0]; decide), if_neg (by rw [h0]; decide)]; exact kk)
/-- putfield, of any kind: h' has v there -/
theorem w_putA {idx ci k a : Nat} {ty : FieldType} {f : Bool} {v : Value} {h' : PH} (hd : decode M.2.1 pc = .ok (.putfield idx, 3)) (hf : FL M.1 idx ci k ty f) (hfin : f = false ∨ (M.2.2.2.2.name = "<init>" ∧ ∃ C T N, vwCl[ci]? = some (C, T, N) ∧ (T k).1 = M.1 ∧ Jvm.Cond.fieldLink M.1 idx (T k).1 (T k).2.1 (T k).2.2.1 ∈ Tg)) (hk : kd a = ci) (ha : a < hn h)
    (hty : ∀ ad : Nat → Nat, narrow ty (cv ad v) = cv ad v ∧ fits ty (cv ad v) = true) (hnn : hn h' = hn h) (hcc : hc h' = hc h) (hss : hs h' = hs h)
    (hself : ∀ ad, fv ad h' a ci k = cv ad v) (hoth : ∀ ad j, j ≠ k → fv ad h' a ci j = fv ad h a ci j) (ho : ∀ cy ad b, b ≠ a → ce cy ad h' b = ce cy ad h b) (hok : okh h → okv (hn h) v → okh h')
    (kk : WP X M d L (pc + 3) ls st h' Q) : WP X M d L pc ls (v :: .ref a :: st) h Q := by
  obtain ⟨C, T, N, ⟨q1, q2, q3, ⟨ty0, q4, q5⟩, q6, q7⟩, g1, g2, g3, g4⟩ := hf
  refine WP.mp (fun _ _ => Rt.put hnn hcc hss (fun p l e R s m args below meth c H locs cells slots Q ad cls cy D A hx hb hC hR hS kk => ?_)) kk
  have he : (wd cy ad h)[a]? = some (ad a, .inr (ci, (List.range (nF ci)).map (fv ad h a ci))) := by rw [wd_get ha, ce_o hk q3]
  have hl : k < ((List.range (nF ci)).map (fv ad h a ci)).length := by simp; rw [q2]; exact g1
  have hset : (wd cy ad h).set a (ad a, .inr (ci, ((List.range (nF ci)).map (fv ad h a ci)).set k (cv ad v))) = wd cy ad h' := by
    rw [rset (nF ci) k (fv ad h a ci) (fv ad h' a ci) (cv ad v) (hself ad) (hoth ad), ← ce_o (cy := cy) (ad := ad) (h := h') hk q3]
    exact wd_set hnn (ho cy ad)
  have kk2 : ∀ (H1 : Heap) (locs1 : List Loc), va_P D vwCl ((wd cy ad h).set a (ad a, .inr (ci, ((List.range (nF ci)).map (fv ad h a ci)).set k (cv ad v)))) H1 → va_D A ((wd cy ad h).set a (ad a, .inr (ci, ((List.range (nF ci)).map (fv ad h a ci)).set k (cv ad v)))) → va_S A s.heap H1 locs1 → W p l e R s m args below meth c H1 locs1 cells slots Q (F0 m (pc + 3) cls (st.map (cv ad))) := by
    intro H1 locs1 b1 b2 b3
    rw [hset] at b1 b2
    exact kk H1 locs1 ⟨b1, b2, b3, hok hR.2.2.2 (okS.hd hS)⟩ (okS.tl (okS.tl hS))
  have hnr := hty ad
  rcases hfin with hfin | ⟨hfin, C', T', N', e1, e2, g5⟩
  · rcases g4 with g4 | ⟨host, g4⟩
    · exact va_put (D := D) (ci := ci) (C := C) (T := T) (N := N) hx hb hC.2.2.2.2.1 q7 ty0 q4 q6 hC.2.2.2.1 hC.2.2.2.2.2.2.2.2.1 hR.1 hR.2.1 hR.2.2.1 a he q1 k g1 (hC.2.2.2.2.1 _ g4) (fun _ h9 => h9) (g3.trans hfin) g2 hnr.1 hnr.2 hl hd kk2
    · exact va_putN (D := D) (ci := ci) (C := C) (T := T) (N := N) hx hb hC.2.2.2.2.1 q7 ty0 q4 q6 hC.2.2.2.1 hC.2.2.2.2.2.2.2.2.1 hR.1 hR.2.1 hR.2.2.1 a he q1 k g1 (NW.use hC.2.2.2.2.2.2.2.2.2.2.1 g4) (fun _ h9 => h9) (g3.trans hfin) g2 hnr.1 hnr.2 hl hd kk2
  · have e3 := Option.some.inj (e1.symm.trans q1)
    cases e3
    cases f with
    | false =>
      rcases g4 with g4 | ⟨host, g4⟩
      · exact va_put (D := D) (ci := ci) (C := C) (T := T) (N := N) hx hb hC.2.2.2.2.1 q7 ty0 q4 q6 hC.2.2.2.1 hC.2.2.2.2.2.2.2.2.1 hR.1 hR.2.1 hR.2.2.1 a he q1 k g1 (hC.2.2.2.2.1 _ g4) (fun _ h9 => h9) g3 g2 hnr.1 hnr.2 hl hd kk2
      · exact va_putN (D := D) (ci := ci) (C := C) (T := T) (N := N) hx hb hC.2.2.2.2.1 q7 ty0 q4 q6 hC.2.2.2.1 hC.2.2.2.2.2.2.2.2.1 hR.1 hR.2.1 hR.2.2.1 a he q1 k g1 (NW.use hC.2.2.2.2.2.2.2.2.2.2.1 g4) (fun _ h9 => h9) g3 g2 hnr.1 hnr.2 hl hd kk2
    | true =>
      exact va_putF (D := D) (ci := ci) (C := C) (T := T) (N := N) hx hb hC.2.2.2.2.1 q7 ty0 q4 q6 hC.2.2.2.1 hC.2.2.2.2.2.2.2.2.1 hR.1 hR.2.1 hR.2.2.1 a he q1 k g1 (hC.2.2.2.2.1 _ g5) (fun _ h9 => h9) g3 (hC.2.2.2.2.2.2.2.1.trans hfin) e2 g2 hnr.1 hnr.2 hl hd kk2
theorem w_putI {idx ci k a : Nat} {ty : FieldType} {v : Int32} (hd : decode M.2.1 pc = .ok (.putfield idx, 3)) (hf : FL M.1 idx ci k ty false) (h0 : fk ci k = 0) (hk : kd a = ci) (ha : a < hn h) (hty : narrow ty (.int v) = .int v ∧ fits ty (.int v) = true) (kk : WP X M d L (pc + 3) ls st (sI h a k v) Q) : WP X M d L pc ls (.int v :: .ref a :: st) h Q :=
  w_putA (h' := sI h a k v) hd hf (Or.inl rfl) hk ha (fun _ => hty) rfl rfl rfl
    (fun ad => by unfold fv; rw [if_pos h0]; show Value.int (up2 (hI h) a k v a k) = _; rw [up2_s]; simp [cv])
    (fun ad j hj => by unfold fv; show (if fk ci j = 0 then Value.int (up2 (hI h) a k v a j) else if fk ci j = 1 then Value.long (hL h a j) else va_rf ((hR h a j).map ad)) = _; rw [up2_s]; simp only [if_neg hj])
    (fun _ _ _ e => ce_sI e) (fun o _ => okh_sI o) kk
theorem w_putL {idx ci k a : Nat} {v : Int64} (hd : decode M.2.1 pc = .ok (.putfield idx, 3)) (hf : FL M.1 idx ci k .long false) (h0 : fk ci k = 1) (hk : kd a = ci) (ha : a < hn h) (kk : WP X M d L (pc + 3) ls st (sL h a k v) Q) : WP X M d L pc ls (.long v :: .ref a :: st) h Q :=
  w_putA (h' := sL h a k v) hd hf (Or.inl rfl) hk ha (fun _ => ⟨rfl, rfl⟩) rfl rfl rfl
    (fun ad => by unfold fv; rw [if_neg (by rw [h0]; decide), if_pos h0]; show Value.long (up2 (hL h) a k v a k) = _; rw [up2_s]; simp [cv])
    (fun ad j hj => by unfold fv; show (if fk ci j = 0 then Value.int (hI h a j) else if fk ci j = 1 then Value.long (up2 (hL h) a k v a j) else va_rf ((hR h a j).map ad)) = _; rw [up2_s]; simp only [if_neg hj])
    (fun _ _ _ e => ce_sL e) (fun o _ => okh_sL o) kk
def isRefTy (ty : FieldType) : Bool := match ty with
  | .object _ => true
  | .array _ => true
  | _ => false
theorem narrow_rf {ty : FieldType} (h : isRefTy ty = true) (r : Option Nat) : narrow ty (va_rf r) = va_rf r ∧ fits ty (va_rf r) = true := by
  cases ty with
  | object C => cases r <;> exact ⟨rfl, rfl⟩
  | array t => cases r <;> exact ⟨rfl, rfl⟩
  | _ => cases h
theorem w_putR {idx ci k a : Nat} {ty : FieldType} {f : Bool} {v : Option Nat} (hd : decode M.2.1 pc = .ok (.putfield idx, 3)) (hf : FL M.1 idx ci k ty f) (hfin : f = false ∨ (M.2.2.2.2.name = "<init>" ∧ ∃ C T N, vwCl[ci]? = some (C, T, N) ∧ (T k).1 = M.1 ∧ Jvm.Cond.fieldLink M.1 idx (T k).1 (T k).2.1 (T k).2.2.1 ∈ Tg)) (h0 : fk ci k = 2) (hk : kd a = ci) (ha : a < hn h) (hty : isRefTy ty = true) (kk : WP X M d L (pc + 3) ls st (sR h a k v) Q) : WP X M d L pc ls (va_rf v :: .ref a :: st) h Q :=
  w_putA (h' := sR h a k v) hd hf hfin hk ha (fun ad => by rw [cv_rf]; exact narrow_rf hty _) rfl rfl rfl
    (fun ad => by unfold fv; rw [if_neg (by rw [h0]; decide), if_neg (by rw [h0]; decide)]; show va_rf ((up2 (hR h) a k v a k).map ad) = _; rw [up2_s, cv_rf]; simp)
    (fun ad j hj => by unfold fv; show (if fk ci j = 0 then Value.int (hI h a j) else if fk ci j = 1 then Value.long (hL h a j) else va_rf ((up2 (hR h) a k v a j).map ad)) = _; rw [up2_s]; simp only [if_neg hj])
    (fun _ _ _ e => ce_sR e) (fun o ov => okh_sR o (fun b e => by subst e; exact ov b rfl)) kk
theorem w_iaload {a : Nat} {i : Int32} (hd : decode M.2.1 pc = .ok (.iaload, 1)) (hk : kd a = 12) (ha : a < hn h) (hin : vp_in i (ln a)) (kk : WP X M d L (pc + 1) ls (.int (hI h a i.toNatClampNeg) :: st) h Q) : WP X M d L pc ls (.int i :: .ref a :: st) h Q :=
  WP.mp (fun _ _ => Rt.pure (fun p l e R s m args below meth c H locs cells slots Q ad cls cy D A hx hb hC hR hP hS kk => va_iald (D := D) (cl := vwCl) (ws := wd cy ad h) hx hb hC.2.2.2.2.2.2.2.2.1 hR.1 a 1 (cA := cy 1) (by rw [wd_get ha, ce_i hk]) rfl hin hd (kk cls hP (okS.i (okS.tl (okS.tl hS)))))) kk
theorem w_baload {a : Nat} {i : Int32} (hd : decode M.2.1 pc = .ok (.baload, 1)) (hk : kd a = 11) (ha : a < hn h) (hin : vp_in i (ln a)) (kk : WP X M d L (pc + 1) ls (.int (hI h a i.toNatClampNeg) :: st) h Q) : WP X M d L pc ls (.int i :: .ref a :: st) h Q :=
  WP.mp (fun _ _ => Rt.pure (fun p l e R s m args below meth c H locs cells slots Q ad cls cy D A hx hb hC hR hP hS kk => va_bald (D := D) (cl := vwCl) (ws := wd cy ad h) hx hb hC.2.2.2.2.2.2.2.2.1 hR.1 a 0 (cA := cy 0) (by rw [wd_get ha, ce_b hk]) rfl hin hd (kk cls hP (okS.i (okS.tl (okS.tl hS)))))) kk
theorem w_laload {a : Nat} {i : Int32} (hd : decode M.2.1 pc = .ok (.laload, 1)) (hk : kd a = 13) (ha : a < hn h) (hin : vp_in i (ln a)) (kk : WP X M d L (pc + 1) ls (.long (hL h a i.toNatClampNeg) :: st) h Q) : WP X M d L pc ls (.int i :: .ref a :: st) h Q :=
  WP.mp (fun _ _ => Rt.pure (fun p l e R s m args below meth c H locs cells slots Q ad cls cy D A hx hb hC hR hP hS kk => va_lald (D := D) (cl := vwCl) (ws := wd cy ad h) hx hb hC.2.2.2.2.2.2.2.2.1 hR.1 a 2 (cA := cy 2) (by rw [wd_get ha, ce_l hk]) rfl hin hd (kk cls hP (okS.l (okS.tl (okS.tl hS)))))) kk
theorem w_aaload {a : Nat} {i : Int32} (hd : decode M.2.1 pc = .ok (.aaload, 1)) (hk : kd a = 14) (ha : a < hn h) (hin : vp_in i (ln a)) (kk : WP X M d L (pc + 1) ls (va_rf (hR h a i.toNatClampNeg) :: st) h Q) : WP X M d L pc ls (.int i :: .ref a :: st) h Q :=
  WP.mp (fun _ _ => Rt.pure (fun p l e R s m args below meth c H locs cells slots Q ad cls cy D A hx hb hC hRp hP hS kk => by
    have hlt : i.toNatClampNeg < ln a := Nat.not_le.mp fun q => hin (Or.inr q)
    have hce : va_at D vwCl (ad a, ce cy ad h a) H := hRp.1 a _ (wd_get ha)
    rw [ce_r hk] at hce
    have hok : okv (hn h) (va_rf (hR h a i.toNatClampNeg)) := by
      cases e3 : hR h a i.toNatClampNeg with
      | none => exact okv_null _
      | some b => intro x hx; cases hx; exact hRp.2.2.2 a _ b ha e3
    have k2 := kk cls hP (okS.cons hok (okS.tl (okS.tl hS)))
    rw [List.map_cons, cv_rf] at k2
    exact W.aald (v := va_rf ((hR h a i.toNatClampNeg).map ad)) (ty := .array .int) hx hb hce ((hC.2.2.2.2.2.2.2.2.1.2 3 _ rfl).1 (ln a) (fun j => va_rf ((hR h a j).map ad))) rfl (fun q => by cases q) (by show ¬ (i < 0 ∨ (arrV _ _ _).slots.size ≤ _); rw [arrV_size]; exact hin) (by show (arrV _ _ _).slots[_]? = _; rw [arrV_read _ _ hlt]) rfl rfl hd k2)) kk
theorem w_alen {a : Nat} {v : Int32} (hd : decode M.2.1 pc = .ok (.arraylength, 1)) (hk : kd a = 11 ∨ kd a = 12) (ha : a < hn h) (hv : Int32.ofNat (ln a) = v) (kk : WP X M d L (pc + 1) ls (.int v :: st) h Q) : WP X M d L pc ls (.ref a :: st) h Q :=
  WP.mp (fun _ _ => Rt.pure (fun p l e R s m args below meth c H locs cells slots Q ad cls cy D A hx hb hC hR hP hS kk => by
    rcases hk with hk | hk
    · exact va_alen (D := D) (cl := vwCl) (ws := wd cy ad h) hx hb hC.2.2.2.2.2.2.2.2.1 hR.1 a 0 (cA := cy 0) (by rw [wd_get ha, ce_b hk]) rfl hv hd (kk cls hP (okS.i (okS.tl hS)))
    · exact va_alen (D := D) (cl := vwCl) (ws := wd cy ad h) hx hb hC.2.2.2.2.2.2.2.2.1 hR.1 a 1 (cA := cy 1) (by rw [wd_get ha, ce_i hk]) rfl hv hd (kk cls hP (okS.i (okS.tl hS))))) kk
theorem w_lcmp {x y : Int64} (hd : decode M.2.1 pc = .ok (.lcmp, 1)) (k : WP X M d L (pc + 1) ls (.int (lg_cmp x y) :: st) h Q) : WP X M d L pc ls (.long y :: .long x :: st) h Q :=
  WP.mp (fun _ _ => Rt.pure (fun p l e R s m args below meth c H locs cells slots Q ad cls cy D A hx hb hC hR hP hS kk => W.lcmp hx hb hd (kk cls hP (okS.i (okS.tl (okS.tl hS)))))) k
theorem w_iastore {a : Nat} {i x : Int32} (hd : decode M.2.1 pc = .ok (.iastore, 1)) (hk : kd a = 12) (ha : a < hn h) (hin : vp_in i (ln a)) (kk : WP X M d L (pc + 1) ls st (sI h a i.toNatClampNeg x) Q) : WP X M d L pc ls (.int x :: .int i :: .ref a :: st) h Q :=
  WP.mp (fun _ _ => Rt.put (h' := sI h a i.toNatClampNeg x) rfl rfl rfl (fun p l e R s m args below meth c H locs cells slots Q ad cls cy D A hx hb hC hR hS kk => by
    have hset : (wd cy ad h).set a (ad a, .inl (cy 1, ln a, .inl (upd (hI h a) i.toNatClampNeg x))) = wd cy ad (sI h a i.toNatClampNeg x) := by
      rw [show upd (hI h a) i.toNatClampNeg x = hI (sI h a i.toNatClampNeg x) a from (up2_s _ _ _ _).symm, ← ce_i (cy := cy) (ad := ad) (h := sI h a i.toNatClampNeg x) hk]
      exact wd_set rfl (fun b e => ce_sI e)
    refine va_iast (D := D) (cl := vwCl) (ws := wd cy ad h) hx hb hC.2.2.2.2.2.2.2.2.1 hR.1 hR.2.1 hR.2.2.1 a 1 (cA := cy 1) (by rw [wd_get ha, ce_i hk]) rfl hin hd (fun H1 locs1 b1 b2 b3 => ?_)
    rw [hset] at b1 b2
    exact kk H1 locs1 ⟨b1, b2, b3, okh_sI hR.2.2.2⟩ (okS.tl (okS.tl (okS.tl hS))))) kk
theorem w_bastore {a : Nat} {i x : Int32} (hd : decode M.2.1 pc = .ok (.bastore, 1)) (hk : kd a = 11) (ha : a < hn h) (hin : vp_in i (ln a)) (kk : WP X M d L (pc + 1) ls st (sI h a i.toNatClampNeg (vp_nar .byte x)) Q) : WP X M d L pc ls (.int x :: .int i :: .ref a :: st) h Q :=
  WP.mp (fun _ _ => Rt.put (h' := sI h a i.toNatClampNeg (vp_nar .byte x)) rfl rfl rfl (fun p l e R s m args below meth c H locs cells slots Q ad cls cy D A hx hb hC hR hS kk => by
    have hset : (wd cy ad h).set a (ad a, .inl (cy 0, ln a, .inl (upd (hI h a) i.toNatClampNeg (vp_nar .byte x)))) = wd cy ad (sI h a i.toNatClampNeg (vp_nar .byte x)) := by
      rw [show upd (hI h a) i.toNatClampNeg (vp_nar .byte x) = hI (sI h a i.toNatClampNeg (vp_nar .byte x)) a from (up2_s _ _ _ _).symm, ← ce_b (cy := cy) (ad := ad) (h := sI h a i.toNatClampNeg (vp_nar .byte x)) hk]
      exact wd_set rfl (fun b e => ce_sI e)
    refine va_bast (D := D) (cl := vwCl) (ws := wd cy ad h) hx hb hC.2.2.2.2.2.2.2.2.1 hR.1 hR.2.1 hR.2.2.1 a 0 (cA := cy 0) (by rw [wd_get ha, ce_b hk]) rfl hin hd (fun H1 locs1 b1 b2 b3 => ?_)
    rw [hset] at b1 b2
    exact kk H1 locs1 ⟨b1, b2, b3, okh_sI hR.2.2.2⟩ (okS.tl (okS.tl (okS.tl hS))))) kk
theorem w_lastore {a : Nat} {i : Int32} {x : Int64} (hd : decode M.2.1 pc = .ok (.lastore, 1)) (hk : kd a = 13) (ha : a < hn h) (hin : vp_in i (ln a)) (kk : WP X M d L (pc + 1) ls st (sL h a i.toNatClampNeg x) Q) : WP X M d L pc ls (.long x :: .int i :: .ref a :: st) h Q :=
  WP.mp (fun _ _ => Rt.put (h' := sL h a i.toNatClampNeg x) rfl rfl rfl (fun p l e R s m args below meth c H locs cells slots Q ad cls cy D A hx hb hC hR hS kk => by
    have hset : (wd cy ad h).set a (ad a, .inl (cy 2, ln a, .inr (.inl (vp_updL (hL h a) i.toNatClampNeg x)))) = wd cy ad (sL h a i.toNatClampNeg x) := by
      rw [show vp_updL (hL h a) i.toNatClampNeg x = hL (sL h a i.toNatClampNeg x) a from (up2_s _ _ _ _).symm, ← ce_l (cy := cy) (ad := ad) (h := sL h a i.toNatClampNeg x) hk]
      exact wd_set rfl (fun b e => ce_sL e)
    refine va_last (D := D) (cl := vwCl) (ws := wd cy ad h) hx hb hC.2.2.2.2.2.2.2.2.1 hR.1 hR.2.1 hR.2.2.1 a 2 (cA := cy 2) (by rw [wd_get ha, ce_l hk]) rfl hin hd (fun H1 locs1 b1 b2 b3 => ?_)
    rw [hset] at b1 b2
    exact kk H1 locs1 ⟨b1, b2, b3, okh_sL hR.2.2.2⟩ (okS.tl (okS.tl (okS.tl hS))))) kk
end HR
