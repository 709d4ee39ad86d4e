/-! THE PURE MACHINE. A heap by numbers (hI ints, hL longs, hR references, hn cells of ours, hc cells made, hs slots made);
what it says of the machine's heap (Rp); a run of a method from a point to its end (Rt); and what holds at the end (WP). -/
abbrev PH : Type := (Nat → Nat → Int32) × (Nat → Nat → Int64) × (Nat → Nat → Option Nat) × Nat × Nat × Nat
def hI (h : PH) : Nat → Nat → Int32 := h.1
def hL (h : PH) : Nat → Nat → Int64 := h.2.1
def hR (h : PH) : Nat → Nat → Option Nat := h.2.2.1
def hn (h : PH) : Nat := h.2.2.2.1
def hc (h : PH) : Nat := h.2.2.2.2.1
def hs (h : PH) : Nat := h.2.2.2.2.2
def up2 {α : Type} (f : Nat → Nat → α) (a k : Nat) (v : α) : Nat → Nat → α := fun b j => if b = a then (if j = k then v else f b j) else f b j
def sI (h : PH) (a k : Nat) (v : Int32) : PH := (up2 (hI h) a k v, hL h, hR h, hn h, hc h, hs h)
def sL (h : PH) (a k : Nat) (v : Int64) : PH := (hI h, up2 (hL h) a k v, hR h, hn h, hc h, hs h)
def sR (h : PH) (a k : Nat) (v : Option Nat) : PH := (hI h, hL h, up2 (hR h) a k v, hn h, hc h, hs h)
/-- a new cell, all of it 0 and null, of z slots -/
def sN (h : PH) (z : Nat) : PH := (fun b j => if b = hn h then 0 else hI h b j, fun b j => if b = hn h then 0 else hL h b j, fun b j => if b = hn h then none else hR h b j, hn h + 1, hc h + 1, hs h + z)
def fv (ad : Nat → Nat) (h : PH) (a c k : Nat) : Value := if fk c k = 0 then .int (hI h a k) else if fk c k = 1 then .long (hL h a k) else va_rf ((hR h a k).map ad)
def ce (cy : Nat → ClassId) (ad : Nat → Nat) (h : PH) (a : Nat) : va_E :=
  if kd a < 11 then .inr (kd a, (List.range (nF (kd a))).map (fv ad h a (kd a)))
  else if kd a = 11 then .inl (cy 0, ln a, .inl (hI h a))
  else if kd a = 12 then .inl (cy 1, ln a, .inl (hI h a))
  else if kd a = 13 then .inl (cy 2, ln a, .inr (.inl (hL h a)))
  else .inl (cy 3, ln a, .inr (.inr (.inr (.inr (fun j => (hR h a j).map ad)))))
def wd (cy : Nat → ClassId) (ad : Nat → Nat) (h : PH) : va_W := (List.range (hn h)).map (fun a => (ad a, ce cy ad h a))
def ctys (cy : Nat → ClassId) : List (ClassId × FieldType) := [(cy 0, .byte), (cy 1, .int), (cy 2, .long), (cy 3, .array .int)]
/-- a number of a cell that is there, or of a constant -/
def okr (n a : Nat) : Prop := a < n ∨ 1000000 ≤ a
def okv (n : Nat) (v : Value) : Prop := ∀ a, v = .ref a → okr n a
theorem cv_rf (ad : Nat → Nat) (r : Option Nat) : cv ad (va_rf r) = va_rf (r.map ad) := by cases r <;> rfl
theorem cv_cat (ad : Nat → Nat) (v : Value) : (cv ad v).category = v.category := by cases v <;> rfl
theorem okr.mono {n m a : Nat} (h : okr n a) (hm : n ≤ m) : okr m a := h.elim (fun h => Or.inl (Nat.lt_of_lt_of_le h hm)) Or.inr
theorem okv.mono {n m : Nat} {v : Value} (h : okv n v) (hm : n ≤ m) : okv m v := fun a e => (h a e).mono hm
theorem cv_ext {n : Nat} {ad ad' : Nat → Nat} (h : ∀ a, okr n a → ad' a = ad a) {v : Value} (hv : okv n v) : cv ad' v = cv ad v := by
  cases v with
  | ref a => show Value.ref (ad' a) = Value.ref (ad a); rw [h a (hv a rfl)]
  | _ => rfl
/-- the references of the heap are of cells that are there -/
def okh (h : PH) : Prop := ∀ a k b, a < hn h → hR h a k = some b → okr (hn h) b
def Rp (cy : Nat → ClassId) (D : va_G) (ad : Nat → Nat) (h : PH) (A : Nat → Prop) (H0 H : Heap) (locs : List Loc) : Prop :=
  va_P D vwCl (wd cy ad h) H ∧ va_D A (wd cy ad h) ∧ va_S A H0 H locs ∧ okh h
def PL (n : Nat) (ad : Nat → Nat) (nL : Nat) (ls : List (Option Value)) (cls : Array Slot) : Prop :=
  cls.size = nL ∧ lv_wf cls ∧ ∀ (i : Nat) (v : Value), ls[i]? = some (some v) → v.category = 1 ∧ okv n v ∧ cls[i]? = some (Slot.val (cv ad v))
theorem wd_get {cy : Nat → ClassId} {ad : Nat → Nat} {h : PH} {a : Nat} (ha : a < hn h) : (wd cy ad h)[a]? = some (ad a, ce cy ad h a) := by
  unfold wd; rw [List.getElem?_map, List.getElem?_range ha]; rfl
theorem wd_len (cy : Nat → ClassId) (ad : Nat → Nat) (h : PH) : (wd cy ad h).length = hn h := by simp [wd]
theorem wd_set {cy : Nat → ClassId} {ad : Nat → Nat} {h h' : PH} {a : Nat} (hnn : hn h' = hn h) (ho : ∀ b, b ≠ a → ce cy ad h' b = ce cy ad h b) : (wd cy ad h).set a (ad a, ce cy ad h' a) = wd cy ad h' := by
  apply List.ext_getElem?
  intro i
  rw [List.getElem?_set]
  by_cases hi : i < hn h
  · by_cases e : a = i
    · subst e; rw [if_pos rfl, if_pos (by rw [wd_len]; exact hi), wd_get (by rw [hnn]; exact hi)]
    · rw [if_neg e, wd_get hi, wd_get (by rw [hnn]; exact hi), ho i (Ne.symm e)]
  · have h1 : (wd cy ad h')[i]? = none := List.getElem?_eq_none (by rw [wd_len, hnn]; omega)
    rw [h1]
    by_cases e : a = i
    · rw [if_pos e, if_neg (by rw [wd_len]; omega)]
    · rw [if_neg e]; exact List.getElem?_eq_none (by rw [wd_len]; omega)
theorem ce_ext {cy : Nat → ClassId} {ad ad' : Nat → Nat} {h : PH} (ho : okh h) (he : ∀ a, okr (hn h) a → ad' a = ad a) {a : Nat} (ha : a < hn h) : ce cy ad' h a = ce cy ad h a := by
  have hr : ∀ k, (hR h a k).map ad' = (hR h a k).map ad := by
    intro k
    cases e : hR h a k with
    | none => rfl
    | some b => show some (ad' b) = some (ad b); rw [he b (ho a k b ha e)]
  have hf : fv ad' h a (kd a) = fv ad h a (kd a) := by funext k; unfold fv; rw [hr]
  unfold ce
  rw [hf]
  simp only [hr]
theorem wd_ext {cy : Nat → ClassId} {ad ad' : Nat → Nat} {h : PH} (ho : okh h) (he : ∀ a, okr (hn h) a → ad' a = ad a) : wd cy ad' h = wd cy ad h := by
  unfold wd
  apply List.map_congr_left
  intro a ha
  have ha := List.mem_range.mp ha
  rw [he a (Or.inl ha), ce_ext ho he ha]
/-- what stands all through one run of a method -/
def Cx (X : Nat × (Nat → Int32)) (M : MR) (cy : Nat → ClassId) (D : va_G) (ad : Nat → Nat) (A : Nat → Prop) (p : Program) (s : State) (m : MethodId) (args : Array Value) (meth : Method) (c : Code) : Prop :=
  p.tables.exec = Jvm.exec ∧ c.code = M.2.1 ∧ c.maxLocals = M.2.2.1 ∧ s.vm.findClass M.1 = some m.cls ∧ (∀ w ∈ Tg, w.before args s = true) ∧ meth.locks = false ∧ meth.sig.returnType = M.2.2.2.1 ∧ meth.name = M.2.2.2.2.name ∧ va_K D vwCl (ctys cy) s ∧ (∀ q, s.heap.size ≤ q → A q) ∧ KC X ad A s s.heap
theorem Cx.ext {X : Nat × (Nat → Int32)} {M : MR} {cy : Nat → ClassId} {D : va_G} {ad ad' : Nat → Nat} {A : Nat → Prop} {p : Program} {s : State} {m : MethodId} {args : Array Value} {meth : Method} {c : Code} {n : Nat} (h : Cx X M cy D ad A p s m args meth c) (he : ∀ a, okr n a → ad' a = ad a) : Cx X M cy D ad' A p s m args meth c := by
  obtain ⟨a1, a2, a3, a4, a5, a6, a7, a8, a9, a10, a11⟩ := h
  exact ⟨a1, a2, a3, a4, a5, a6, a7, a8, a9, a10, a11.ext (fun a h => he a (Or.inr h))⟩
/-- the instruction at which a run ends, by what it ends with (.retAddr: a throw's 'new', of the class by number) -/
def RetAt (M : MR) (pc : Nat) (r : Option Value) : Prop := match r with
  | none => decode M.2.1 pc = .ok (.return_, 1)
  | some (.int v) => decode M.2.1 pc = .ok (.ireturn, 1) ∧ ∀ ty, M.2.2.2.1 = some ty → narrow ty (.int v) = .int v
  | some (.retAddr j) => j = pc
  | some _ => decode M.2.1 pc = .ok (.areturn, 1)
/-- a launch without stack traces -/
abbrev Ln : Type := { l : Launch // l.stackTraces = false }
def rst (ad : Nat → Nat) (r : Option Value) : List Value := match r with
  | none => []
  | some (.retAddr _) => []
  | some v => [cv ad v]
def Rt (X : Nat × (Nat → Int32)) (M : MR) (d L pc : Nat) (ls : List (Option Value)) (st : List Value) (h : PH) (r : Option Value) (hE : PH) : Prop :=
  hn h ≤ hn hE ∧ hc h ≤ hc hE ∧ hs h ≤ hs hE ∧
  ∀ (p : Program) (l : Ln) (e : Env) (R : Room) (s : State) (m : MethodId) (args : Array Value) (below : List Frame) (meth : Method) (c : Code) (cy : Nat → ClassId) (D : va_G) (A : Nat → Prop) (ad : Nat → Nat) (H : Heap) (locs : List Loc) (cls : Array Slot) (c0 s0 : Nat) (Qf : State → Prop),
    Cx X M cy D ad A p s m args meth c → d ≤ R.frames → L ≤ R.locals → hc hE ≤ c0 + R.cells → hs hE ≤ s0 + R.slots → c0 ≤ hc h → s0 ≤ hs h →
    Rp cy D ad h A s.heap H locs → PL (hn h) ad M.2.2.1 ls cls → (∀ v ∈ st, okv (hn h) v) →
    (∀ (ad' : Nat → Nat) (H' : Heap) (locs' : List Loc) (cls' : Array Slot) (pcE : Nat), (∀ a, okr (hn h) a → ad' a = ad a) → Rp cy D ad' hE A s.heap H' locs' → RetAt M pcE r → (∀ v, r = some v → okv (hn hE) v) → cls'.size = M.2.2.1 → W p l.1 e R s m args below meth c H' locs' (hc hE - c0) (hs hE - s0) Qf (F0 m pcE cls' (rst ad' r))) →
    W p l.1 e R s m args below meth c H locs (hc h - c0) (hs h - s0) Qf (F0 m pc cls (st.map (cv ad)))
def WP (X : Nat × (Nat → Int32)) (M : MR) (d L pc : Nat) (ls : List (Option Value)) (st : List Value) (h : PH) (Q : Option Value → PH → Prop) : Prop := ∃ r hE, Rt X M d L pc ls st h r hE ∧ Q r hE
theorem WP.mp {X : Nat × (Nat → Int32)} {M : MR} {d L pc pc' : Nat} {ls ls' : List (Option Value)} {st st' : List Value} {h h' : PH} {Q : Option Value → PH → Prop} (f : ∀ r hE, Rt X M d L pc' ls' st' h' r hE → Rt X M d L pc ls st h r hE) (k : WP X M d L pc' ls' st' h' Q) : WP X M d L pc ls st h Q := by
  obtain ⟨r, hE, a, b⟩ := k
  exact ⟨r, hE, f r hE a, b⟩
theorem WP.imp {X : Nat × (Nat → Int32)} {M : MR} {d L pc : Nat} {ls : List (Option Value)} {st : List Value} {h : PH} {Q Q' : Option Value → PH → Prop} (k : WP X M d L pc ls st h Q) (f : ∀ r hE, Q r hE → Q' r hE) : WP X M d L pc ls st h Q' := by
  obtain ⟨r, hE, a, b⟩ := k
  exact ⟨r, hE, a, f r hE b⟩
/-- an instruction that leaves the heap alone -/
theorem Rt.pure {X : Nat × (Nat → Int32)} {M : MR} {d L pc pc' : Nat} {ls ls' : List (Option Value)} {st st' : List Value} {h : PH} {r : Option Value} {hE : PH}
    (w : ∀ (p : Program) (l : Launch) (e : Env) (R : Room) (s : State) (m : MethodId) (args : Array Value) (below : List Frame) (meth : Method) (c : Code) (H : Heap) (locs : List Loc) (cells slots : Nat) (Q : State → Prop) (ad : Nat → Nat) (cls : Array Slot) (cy : Nat → ClassId) (D : va_G) (A : Nat → Prop),
      p.tables.exec = Jvm.exec → c.code = M.2.1 → Cx X M cy D ad A p s m args meth c → Rp cy D ad h A s.heap H locs → PL (hn h) ad M.2.2.1 ls cls → (∀ v ∈ st, okv (hn h) v) →
      (∀ cls', PL (hn h) ad M.2.2.1 ls' cls' → (∀ v ∈ st', okv (hn h) v) → W p l e R s m args below meth c H locs cells slots Q (F0 m pc' cls' (st'.map (cv ad)))) → W p l e R s m args below meth c H locs cells slots Q (F0 m pc cls (st.map (cv ad))))
    (k : Rt X M d L pc' ls' st' h r hE) : Rt X M d L pc ls st h r hE := by
  obtain ⟨k1, k2, k3, k4⟩ := k
  refine ⟨k1, k2, k3, ?_⟩
  intro p l e R s m args below meth c cy D A ad H locs cls c0 s0 Qf hC hd hL h1 h2 h3 h4 hR hP hS hEnd
  refine w p l.1 e R s m args below meth c H locs _ _ Qf ad cls cy D A hC.1 hC.2.1 hC hR hP hS (fun cls' hP' hS' => ?_)
  exact k4 p l e R s m args below meth c cy D A ad H locs cls' c0 s0 Qf hC hd hL h1 h2 h3 h4 hR hP' hS' hEnd
