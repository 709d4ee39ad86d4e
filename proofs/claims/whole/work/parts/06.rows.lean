/-! ROWS OF THE PURE MACHINE: instructions that leave the heap alone -/
def okS (n : Nat) (st : List Value) : Prop := ∀ v ∈ st, okv n v
theorem okS.tl {n : Nat} {v : Value} {st : List Value} (h : okS n (v :: st)) : okS n st := fun w hw => h w (List.mem_cons_of_mem _ hw)
theorem okS.hd {n : Nat} {v : Value} {st : List Value} (h : okS n (v :: st)) : okv n v := h v List.mem_cons_self
theorem okS.cons {n : Nat} {v : Value} {st : List Value} (hv : okv n v) (h : okS n st) : okS n (v :: st) := fun w hw => (List.mem_cons.mp hw).elim (fun e => e ▸ hv) (h w)
theorem okv_int (n : Nat) (x : Int32) : okv n (.int x) := fun a e => by cases e
theorem okv_long (n : Nat) (x : Int64) : okv n (.long x) := fun a e => by cases e
theorem okv_null (n : Nat) : okv n .null := fun a e => by cases e
theorem okS.i {n : Nat} {x : Int32} {st : List Value} (h : okS n st) : okS n (.int x :: st) := okS.cons (okv_int n x) h
theorem okS.l {n : Nat} {x : Int64} {st : List Value} (h : okS n st) : okS n (.long x :: st) := okS.cons (okv_long n x) h
def lvl (ad : Nat → Nat) (ls : List (Option Value)) : List (Nat × Value) := (List.range ls.length).filterMap (fun j => match ls[j]? with
  | some (some w) => some (j, cv ad w)
  | _ => none)
theorem lvl_mem {ad : Nat → Nat} {ls : List (Option Value)} {j : Nat} {w : Value} (h : ls[j]? = some (some w)) : (j, cv ad w) ∈ lvl ad ls := by
  unfold lvl
  refine List.mem_filterMap.mpr ⟨j, List.mem_range.mpr (List.getElem?_eq_some_iff.mp h).1, ?_⟩
  rw [h]
theorem lvl_of {ad : Nat → Nat} {ls : List (Option Value)} {q : Nat × Value} (h : q ∈ lvl ad ls) : ∃ w, ls[q.1]? = some (some w) ∧ q.2 = cv ad w := by
  unfold lvl at h
  obtain ⟨j, -, hj⟩ := List.mem_filterMap.mp h
  cases e : ls[j]? with
  | none => rw [e] at hj; cases hj
  | some o =>
    cases o with
    | none => rw [e] at hj; cases hj
    | some w => rw [e] at hj; cases hj; exact ⟨w, e, rfl⟩
theorem PL.has {n : Nat} {ad : Nat → Nat} {nL : Nat} {ls : List (Option Value)} {cls : Array Slot} (h : PL n ad nL ls cls) : lv_has cls nL (lvl ad ls) := by
  refine ⟨h.1, h.2.1, fun q hq => ?_⟩
  obtain ⟨w, h1, h2⟩ := lvl_of hq
  rw [h2]; exact (h.2.2 q.1 w h1).2.2
theorem PL.store {n : Nat} {ad : Nat → Nat} {nL : Nat} {ls : List (Option Value)} {cls cls' : Array Slot} {i : Nat} {v : Value} (h : PL n ad nL ls cls) (hv : v.category = 1) (ho : okv n v)
    (h' : lv_has cls' nL ((i, cv ad v) :: (lvl ad ls).filter (fun q => !(q.1 == i) && !(q.1 + 1 == i && q.2.category == 2)))) : PL n ad nL (ls.set i (some v)) cls' := by
  refine ⟨h'.1, h'.2.1, fun j w hj => ?_⟩
  by_cases e : i = j
  · subst e
    rw [List.getElem?_set] at hj
    rw [if_pos rfl] at hj
    by_cases hl : i < ls.length
    · rw [if_pos hl] at hj; cases hj
      exact ⟨hv, ho, h'.2.2 (i, cv ad v) List.mem_cons_self⟩
    · rw [if_neg hl] at hj; cases hj
  · rw [List.getElem?_set_ne e] at hj
    obtain ⟨h1, h2, h3⟩ := h.2.2 j w hj
    refine ⟨h1, h2, h'.2.2 (j, cv ad w) (List.mem_cons_of_mem _ (List.mem_filter.mpr ⟨lvl_mem hj, ?_⟩))⟩
    have hc : (cv ad w).category = 1 := by rw [cv_cat]; exact h1
    simp [hc, Ne.symm e]
section PR
variable {X : Nat × (Nat → Int32)} {M : MR} {d L pc : Nat} {ls : List (Option Value)} {st : List Value} {h : PH} {Q : Option Value → PH → Prop}

theorem w_iadd {x y : Int32} (hd : decode M.2.1 pc = .ok (.iadd, 1)) (k : WP X M d L (pc + 1) ls (.int (x + y) :: st) h Q) : WP X M d L pc ls (.int y :: .int x :: st) h Q :=
  WP.mp (fun _ _ => Rt.pure (fun p l e R s m args below meth c H locs cells slots Q ad cls cy D A hx hb hC hR hP hS kk => lv_iadd hx hb hd (kk cls hP (okS.i (okS.tl (okS.tl hS)))))) k
theorem w_isub {x y : Int32} (hd : decode M.2.1 pc = .ok (.isub, 1)) (k : WP X M d L (pc + 1) ls (.int (x - y) :: st) h Q) : WP X M d L pc ls (.int y :: .int x :: st) h Q :=
  WP.mp (fun _ _ => Rt.pure (fun p l e R s m args below meth c H locs cells slots Q ad cls cy D A hx hb hC hR hP hS kk => lv_isub hx hb hd (kk cls hP (okS.i (okS.tl (okS.tl hS)))))) k
theorem w_imul {x y : Int32} (hd : decode M.2.1 pc = .ok (.imul, 1)) (k : WP X M d L (pc + 1) ls (.int (x * y) :: st) h Q) : WP X M d L pc ls (.int y :: .int x :: st) h Q :=
  WP.mp (fun _ _ => Rt.pure (fun p l e R s m args below meth c H locs cells slots Q ad cls cy D A hx hb hC hR hP hS kk => lv_imul hx hb hd (kk cls hP (okS.i (okS.tl (okS.tl hS)))))) k
theorem w_iand {x y : Int32} (hd : decode M.2.1 pc = .ok (.iand, 1)) (k : WP X M d L (pc + 1) ls (.int (x &&& y) :: st) h Q) : WP X M d L pc ls (.int y :: .int x :: st) h Q :=
  WP.mp (fun _ _ => Rt.pure (fun p l e R s m args below meth c H locs cells slots Q ad cls cy D A hx hb hC hR hP hS kk => lv_iand hx hb hd (kk cls hP (okS.i (okS.tl (okS.tl hS)))))) k
theorem w_ior {x y : Int32} (hd : decode M.2.1 pc = .ok (.ior, 1)) (k : WP X M d L (pc + 1) ls (.int (x ||| y) :: st) h Q) : WP X M d L pc ls (.int y :: .int x :: st) h Q :=
  WP.mp (fun _ _ => Rt.pure (fun p l e R s m args below meth c H locs cells slots Q ad cls cy D A hx hb hC hR hP hS kk => lv_ior hx hb hd (kk cls hP (okS.i (okS.tl (okS.tl hS)))))) k
theorem w_ixor {x y : Int32} (hd : decode M.2.1 pc = .ok (.ixor, 1)) (k : WP X M d L (pc + 1) ls (.int (x ^^^ y) :: st) h Q) : WP X M d L pc ls (.int y :: .int x :: st) h Q :=
  WP.mp (fun _ _ => Rt.pure (fun p l e R s m args below meth c H locs cells slots Q ad cls cy D A hx hb hC hR hP hS kk => lv_ixor hx hb hd (kk cls hP (okS.i (okS.tl (okS.tl hS)))))) k
theorem w_ishl {x y : Int32} (hd : decode M.2.1 pc = .ok (.ishl, 1)) (k : WP X M d L (pc + 1) ls (.int (x <<< (y &&& 31)) :: st) h Q) : WP X M d L pc ls (.int y :: .int x :: st) h Q :=
  WP.mp (fun _ _ => Rt.pure (fun p l e R s m args below meth c H locs cells slots Q ad cls cy D A hx hb hC hR hP hS kk => lv_ishl hx hb hd (kk cls hP (okS.i (okS.tl (okS.tl hS)))))) k
theorem w_ishr {x y : Int32} (hd : decode M.2.1 pc = .ok (.ishr, 1)) (k : WP X M d L (pc + 1) ls (.int (x >>> (y &&& 31)) :: st) h Q) : WP X M d L pc ls (.int y :: .int x :: st) h Q :=
  WP.mp (fun _ _ => Rt.pure (fun p l e R s m args below meth c H locs cells slots Q ad cls cy D A hx hb hC hR hP hS kk => lv_ishr hx hb hd (kk cls hP (okS.i (okS.tl (okS.tl hS)))))) k
theorem w_idiv {x y : Int32} (hd : decode M.2.1 pc = .ok (.idiv, 1)) (hne : ¬ y = 0) (k : WP X M d L (pc + 1) ls (.int (x / y) :: st) h Q) : WP X M d L pc ls (.int y :: .int x :: st) h Q :=
  WP.mp (fun _ _ => Rt.pure (fun p l e R s m args below meth c H locs cells slots Q ad cls cy D A hx hb hC hR hP hS kk => lv_idiv hx hb hd hne (kk cls hP (okS.i (okS.tl (okS.tl hS)))))) k
theorem w_irem {x y : Int32} (hd : decode M.2.1 pc = .ok (.irem, 1)) (hne : ¬ y = 0) (k : WP X M d L (pc + 1) ls (.int (x - x / y * y) :: st) h Q) : WP X M d L pc ls (.int y :: .int x :: st) h Q :=
  WP.mp (fun _ _ => Rt.pure (fun p l e R s m args below meth c H locs cells slots Q ad cls cy D A hx hb hC hR hP hS kk => lv_irem hx hb hd hne (kk cls hP (okS.i (okS.tl (okS.tl hS)))))) k
theorem w_iushr {x y : Int32} (hd : decode M.2.1 pc = .ok (.iushr, 1)) (k : WP X M d L (pc + 1) ls (.int (x.toUInt32 >>> (y.toUInt32 &&& Int32.toUInt32 31)).toInt32 :: st) h Q) : WP X M d L pc ls (.int y :: .int x :: st) h Q :=
  WP.mp (fun _ _ => Rt.pure (fun p l e R s m args below meth c H locs cells slots Q ad cls cy D A hx hb hC hR hP hS kk => lv_iushr hx hb hd rfl (kk cls hP (okS.i (okS.tl (okS.tl hS)))))) k
theorem w_ineg {x : Int32} (hd : decode M.2.1 pc = .ok (.ineg, 1)) (k : WP X M d L (pc + 1) ls (.int (-x) :: st) h Q) : WP X M d L pc ls (.int x :: st) h Q :=
  WP.mp (fun _ _ => Rt.pure (fun p l e R s m args below meth c H locs cells slots Q ad cls cy D A hx hb hC hR hP hS kk => lv_ineg hx hb hd (kk cls hP (okS.i (okS.tl hS))))) k
theorem w_ladd {x y : Int64} (hd : decode M.2.1 pc = .ok (.ladd, 1)) (k : WP X M d L (pc + 1) ls (.long (x + y) :: st) h Q) : WP X M d L pc ls (.long y :: .long x :: st) h Q :=
  WP.mp (fun _ _ => Rt.pure (fun p l e R s m args below meth c H locs cells slots Q ad cls cy D A hx hb hC hR hP hS kk => lv_ladd hx hb hd (kk cls hP (okS.l (okS.tl (okS.tl hS)))))) k
theorem w_lsub {x y : Int64} (hd : decode M.2.1 pc = .ok (.lsub, 1)) (k : WP X M d L (pc + 1) ls (.long (x - y) :: st) h Q) : WP X M d L pc ls (.long y :: .long x :: st) h Q :=
  WP.mp (fun _ _ => Rt.pure (fun p l e R s m args below meth c H locs cells slots Q ad cls cy D A hx hb hC hR hP hS kk => lv_lsub hx hb hd (kk cls hP (okS.l (okS.tl (okS.tl hS)))))) k
theorem w_lmul {x y : Int64} (hd : decode M.2.1 pc = .ok (.lmul, 1)) (k : WP X M d L (pc + 1) ls (.long (x * y) :: st) h Q) : WP X M d L pc ls (.long y :: .long x :: st) h Q :=
  WP.mp (fun _ _ => Rt.pure (fun p l e R s m args below meth c H locs cells slots Q ad cls cy D A hx hb hC hR hP hS kk => lv_lmul hx hb hd (kk cls hP (okS.l (okS.tl (okS.tl hS)))))) k
theorem w_i2l {x : Int32} (hd : decode M.2.1 pc = .ok (.i2l, 1)) (k : WP X M d L (pc + 1) ls (.long x.toInt64 :: st) h Q) : WP X M d L pc ls (.int x :: st) h Q :=
  WP.mp (fun _ _ => Rt.pure (fun p l e R s m args below meth c H locs cells slots Q ad cls cy D A hx hb hC hR hP hS kk => lv_i2l hx hb hd rfl (kk cls hP (okS.l (okS.tl hS))))) k
theorem w_l2i {x : Int64} (hd : decode M.2.1 pc = .ok (.l2i, 1)) (k : WP X M d L (pc + 1) ls (.int x.toInt32 :: st) h Q) : WP X M d L pc ls (.long x :: st) h Q :=
  WP.mp (fun _ _ => Rt.pure (fun p l e R s m args below meth c H locs cells slots Q ad cls cy D A hx hb hC hR hP hS kk => lv_l2i hx hb hd rfl (kk cls hP (okS.i (okS.tl hS))))) k
theorem w_i2b {x : Int32} (hd : decode M.2.1 pc = .ok (.i2b, 1)) (k : WP X M d L (pc + 1) ls (.int x.toInt8.toInt32 :: st) h Q) : WP X M d L pc ls (.int x :: st) h Q :=
  WP.mp (fun _ _ => Rt.pure (fun p l e R s m args below meth c H locs cells slots Q ad cls cy D A hx hb hC hR hP hS kk => lv_i2b hx hb hd rfl (kk cls hP (okS.i (okS.tl hS))))) k
theorem w_iconst {n : Int} {v : Int32} (hd : decode M.2.1 pc = .ok (.iconst n, 1)) (hv : Int32.ofInt n = v) (k : WP X M d L (pc + 1) ls (.int v :: st) h Q) : WP X M d L pc ls (st) h Q :=
  WP.mp (fun _ _ => Rt.pure (fun p l e R s m args below meth c H locs cells slots Q ad cls cy D A hx hb hC hR hP hS kk => lv_iconst hx hb hd hv (kk cls hP (okS.i hS)))) k
theorem w_bipush {n : Int} {v : Int32} (hd : decode M.2.1 pc = .ok (.bipush n, 2)) (hv : (Int8.ofInt n).toInt32 = v) (k : WP X M d L (pc + 2) ls (.int v :: st) h Q) : WP X M d L pc ls (st) h Q :=
  WP.mp (fun _ _ => Rt.pure (fun p l e R s m args below meth c H locs cells slots Q ad cls cy D A hx hb hC hR hP hS kk => lv_bipush hx hb hd hv (kk cls hP (okS.i hS)))) k
theorem w_sipush {n : Int} {v : Int32} (hd : decode M.2.1 pc = .ok (.sipush n, 3)) (hv : (Int16.ofInt n).toInt32 = v) (k : WP X M d L (pc + 3) ls (.int v :: st) h Q) : WP X M d L pc ls (st) h Q :=
  WP.mp (fun _ _ => Rt.pure (fun p l e R s m args below meth c H locs cells slots Q ad cls cy D A hx hb hC hR hP hS kk => lv_sipush hx hb hd hv (kk cls hP (okS.i hS)))) k
theorem w_lconst {n : Fin 2} {v : Int64} (hd : decode M.2.1 pc = .ok (.lconst n, 1)) (hv : Int64.ofNat (n : Nat) = v) (k : WP X M d L (pc + 1) ls (.long v :: st) h Q) : WP X M d L pc ls (st) h Q :=
  WP.mp (fun _ _ => Rt.pure (fun p l e R s m args below meth c H locs cells slots Q ad cls cy D A hx hb hC hR hP hS kk => lv_lconst hx hb hd hv (kk cls hP (okS.l hS)))) k
theorem w_null  (hd : decode M.2.1 pc = .ok (.aconst_null, 1)) (k : WP X M d L (pc + 1) ls (.null :: st) h Q) : WP X M d L pc ls (st) h Q :=
  WP.mp (fun _ _ => Rt.pure (fun p l e R s m args below meth c H locs cells slots Q ad cls cy D A hx hb hC hR hP hS kk => lv_null hx hb hd (kk cls hP (okS.cons (okv_null _) hS)))) k
theorem w_ldc {idx : Nat} {v : Int32} (hd : decode M.2.1 pc = .ok (.ldc idx, 2)) (hw : Jvm.Cond.constant M.1 idx v ∈ Tg) (k : WP X M d L (pc + 2) ls (.int v :: st) h Q) : WP X M d L pc ls (st) h Q :=
  WP.mp (fun _ _ => Rt.pure (fun p l e R s m args below meth c H locs cells slots Q ad cls cy D A hx hb hC hR hP hS kk => lv_ldc hx hb hC.2.2.2.1 (hC.2.2.2.2.1 _ hw) hd (kk cls hP (okS.i hS)))) k
theorem w_ldcw {idx : Nat} {v : Int32} (hd : decode M.2.1 pc = .ok (.ldc_w idx, 3)) (hw : Jvm.Cond.constant M.1 idx v ∈ Tg) (k : WP X M d L (pc + 3) ls (.int v :: st) h Q) : WP X M d L pc ls (st) h Q :=
  WP.mp (fun _ _ => Rt.pure (fun p l e R s m args below meth c H locs cells slots Q ad cls cy D A hx hb hC hR hP hS kk => lv_ldcw hx hb hC.2.2.2.1 (hC.2.2.2.2.1 _ hw) hd (kk cls hP (okS.i hS)))) k
theorem w_ldc2 {idx : Nat} {v : Int64} (hd : decode M.2.1 pc = .ok (.ldc2_w idx, 3)) (hw : Jvm.Cond.constantLong M.1 idx v ∈ Tg) (k : WP X M d L (pc + 3) ls (.long v :: st) h Q) : WP X M d L pc ls (st) h Q :=
  WP.mp (fun _ _ => Rt.pure (fun p l e R s m args below meth c H locs cells slots Q ad cls cy D A hx hb hC hR hP hS kk => lv_ldc2 hx hb hC.2.2.2.1 (hC.2.2.2.2.1 _ hw) hd (kk cls hP (okS.l hS)))) k
theorem w_iload_n {q : Fin 4} {i : Nat} {x : Int32} (hd : decode M.2.1 pc = .ok (.iload_n q, 1)) (hi : (q : Nat) = i) (hl : ls[i]? = some (some (.int x))) (k : WP X M d L (pc + 1) ls (.int x :: st) h Q) : WP X M d L pc ls (st) h Q :=
  WP.mp (fun _ _ => Rt.pure (fun p l e R s m args below meth c H locs cells slots Q ad cls cy D A hx hb hC hR hP hS kk => lv_iload_n hx hb hd hi (hP.2.2 i _ hl).2.2 (kk cls hP (okS.i hS)))) k
theorem w_iload {i : Nat} {x : Int32} (hd : decode M.2.1 pc = .ok (.iload i, 2)) (hl : ls[i]? = some (some (.int x))) (k : WP X M d L (pc + 2) ls (.int x :: st) h Q) : WP X M d L pc ls (st) h Q :=
  WP.mp (fun _ _ => Rt.pure (fun p l e R s m args below meth c H locs cells slots Q ad cls cy D A hx hb hC hR hP hS kk => lv_iload hx hb hd (hP.2.2 i _ hl).2.2 (kk cls hP (okS.i hS)))) k
theorem w_aload_n {q : Fin 4} {i a : Nat} (hd : decode M.2.1 pc = .ok (.aload_n q, 1)) (hi : (q : Nat) = i) (hl : ls[i]? = some (some (.ref a))) (k : WP X M d L (pc + 1) ls (.ref a :: st) h Q) : WP X M d L pc ls (st) h Q :=
  WP.mp (fun _ _ => Rt.pure (fun p l e R s m args below meth c H locs cells slots Q ad cls cy D A hx hb hC hR hP hS kk => lv_aload_n hx hb hd hi (hP.2.2 i _ hl).2.2 (kk cls hP (okS.cons (hP.2.2 i _ hl).2.1 hS)))) k
theorem w_aload {i a : Nat} (hd : decode M.2.1 pc = .ok (.aload i, 2)) (hl : ls[i]? = some (some (.ref a))) (k : WP X M d L (pc + 2) ls (.ref a :: st) h Q) : WP X M d L pc ls (st) h Q :=
  WP.mp (fun _ _ => Rt.pure (fun p l e R s m args below meth c H locs cells slots Q ad cls cy D A hx hb hC hR hP hS kk => lv_aload hx hb hd (hP.2.2 i _ hl).2.2 (kk cls hP (okS.cons (hP.2.2 i _ hl).2.1 hS)))) k
theorem w_aload_nN {q : Fin 4} {i : Nat} (hd : decode M.2.1 pc = .ok (.aload_n q, 1)) (hi : (q : Nat) = i) (hl : ls[i]? = some (some .null)) (k : WP X M d L (pc + 1) ls (.null :: st) h Q) : WP X M d L pc ls (st) h Q :=
  WP.mp (fun _ _ => Rt.pure (fun p l e R s m args below meth c H locs cells slots Q ad cls cy D A hx hb hC hR hP hS kk => lv_aload_nN hx hb hd hi (hP.2.2 i _ hl).2.2 (kk cls hP (okS.cons (okv_null _) hS)))) k
theorem w_istore_n {q : Fin 4} {i : Nat} {x : Int32} (hd : decode M.2.1 pc = .ok (.istore_n q, 1)) (hi : (q : Nat) = i) (hn9 : i < M.2.2.1) (k : WP X M d L (pc + 1) (ls.set i (some (.int x))) (st) h Q) : WP X M d L pc ls (.int x :: st) h Q :=
  WP.mp (fun _ _ => Rt.pure (fun p l e R s m args below meth c H locs cells slots Q ad cls cy D A hx hb hC hR hP hS kk => lv_istore_n hx hb hd hi hP.has hn9 rfl (fun cls2 h2 => kk cls2 (PL.store (v := .int x) hP rfl (okv_int _ _) h2) (okS.tl hS)))) k
theorem w_istore {i : Nat} {x : Int32} (hd : decode M.2.1 pc = .ok (.istore i, 2)) (hn9 : i < M.2.2.1) (k : WP X M d L (pc + 2) (ls.set i (some (.int x))) (st) h Q) : WP X M d L pc ls (.int x :: st) h Q :=
  WP.mp (fun _ _ => Rt.pure (fun p l e R s m args below meth c H locs cells slots Q ad cls cy D A hx hb hC hR hP hS kk => lv_istore hx hb hd hP.has hn9 rfl (fun cls2 h2 => kk cls2 (PL.store (v := .int x) hP rfl (okv_int _ _) h2) (okS.tl hS)))) k
theorem w_astore_n {q : Fin 4} {i : Nat} {x : Nat} (hd : decode M.2.1 pc = .ok (.astore_n q, 1)) (hi : (q : Nat) = i) (hn9 : i < M.2.2.1) (k : WP X M d L (pc + 1) (ls.set i (some (.ref x))) (st) h Q) : WP X M d L pc ls (.ref x :: st) h Q :=
  WP.mp (fun _ _ => Rt.pure (fun p l e R s m args below meth c H locs cells slots Q ad cls cy D A hx hb hC hR hP hS kk => lv_astore_n hx hb hd hi hP.has hn9 rfl (fun cls2 h2 => kk cls2 (PL.store (v := .ref x) hP rfl (okS.hd hS) h2) (okS.tl hS)))) k
theorem w_astore {i : Nat} {x : Nat} (hd : decode M.2.1 pc = .ok (.astore i, 2)) (hn9 : i < M.2.2.1) (k : WP X M d L (pc + 2) (ls.set i (some (.ref x))) (st) h Q) : WP X M d L pc ls (.ref x :: st) h Q :=
  WP.mp (fun _ _ => Rt.pure (fun p l e R s m args below meth c H locs cells slots Q ad cls cy D A hx hb hC hR hP hS kk => lv_astore hx hb hd hP.has hn9 rfl (fun cls2 h2 => kk cls2 (PL.store (v := .ref x) hP rfl (okS.hd hS) h2) (okS.tl hS)))) k
theorem w_astore_nN {q : Fin 4} {i : Nat}  (hd : decode M.2.1 pc = .ok (.astore_n q, 1)) (hi : (q : Nat) = i) (hn9 : i < M.2.2.1) (k : WP X M d L (pc + 1) (ls.set i (some (.null))) (st) h Q) : WP X M d L pc ls (.null :: st) h Q :=
  WP.mp (fun _ _ => Rt.pure (fun p l e R s m args below meth c H locs cells slots Q ad cls cy D A hx hb hC hR hP hS kk => lv_astore_nN hx hb hd hi hP.has hn9 rfl (fun cls2 h2 => kk cls2 (PL.store (v := .null) hP rfl (okv_null _) h2) (okS.tl hS)))) k
theorem w_astoreN {i : Nat}  (hd : decode M.2.1 pc = .ok (.astore i, 2)) (hn9 : i < M.2.2.1) (k : WP X M d L (pc + 2) (ls.set i (some (.null))) (st) h Q) : WP X M d L pc ls (.null :: st) h Q :=
  WP.mp (fun _ _ => Rt.pure (fun p l e R s m args below meth c H locs cells slots Q ad cls cy D A hx hb hC hR hP hS kk => lv_astoreN hx hb hd hP.has hn9 rfl (fun cls2 h2 => kk cls2 (PL.store (v := .null) hP rfl (okv_null _) h2) (okS.tl hS)))) k
theorem w_iinc {i : Nat} {n : Int} {x v : Int32} (hd : decode M.2.1 pc = .ok (.iinc i n, 3)) (hl : ls[i]? = some (some (.int x))) (hv : x + Int32.ofInt n = v) (hn9 : i < M.2.2.1) (k : WP X M d L (pc + 3) (ls.set i (some (.int v))) st h Q) : WP X M d L pc ls st h Q :=
  WP.mp (fun _ _ => Rt.pure (fun p l e R s m args below meth c H locs cells slots Q ad cls cy D A hx hb hC hR hP hS kk => by
    obtain ⟨j, hj⟩ := List.getElem?_of_mem (lvl_mem (ad := ad) hl)
    exact lv_iinc hx hb hd hP.has hj hv hn9 rfl (fun cls2 h2 => kk cls2 (PL.store (v := .int v) hP rfl (okv_int _ _) h2) hS))) k
theorem w_dup {v : Value} (hd : decode M.2.1 pc = .ok (.dup, 1)) (hv : v.category = 1) (k : WP X M d L (pc + 1) ls (v :: v :: st) h Q) : WP X M d L pc ls (v :: st) h Q :=
  WP.mp (fun _ _ => Rt.pure (fun p l e R s m args below meth c H locs cells slots Q ad cls cy D A hx hb hC hR hP hS kk => lv_dup hx hb hd (by rw [cv_cat]; exact hv) (kk cls hP (okS.cons (okS.hd hS) hS)))) k
theorem w_dup2 {v u : Value} (hd : decode M.2.1 pc = .ok (.dup2, 1)) (hv : v.category = 1) (hu : u.category = 1) (k : WP X M d L (pc + 1) ls (v :: u :: v :: u :: st) h Q) : WP X M d L pc ls (v :: u :: st) h Q :=
  WP.mp (fun _ _ => Rt.pure (fun p l e R s m args below meth c H locs cells slots Q ad cls cy D A hx hb hC hR hP hS kk => lv_dup2_11 hx hb hd (by rw [cv_cat]; exact hv) (by rw [cv_cat]; exact hu) (kk cls hP (okS.cons (okS.hd hS) (okS.cons (okS.hd (okS.tl hS)) hS))))) k
theorem w_pop {v : Value} (hd : decode M.2.1 pc = .ok (.pop, 1)) (hv : v.category = 1) (k : WP X M d L (pc + 1) ls (st) h Q) : WP X M d L pc ls (v :: st) h Q :=
  WP.mp (fun _ _ => Rt.pure (fun p l e R s m args below meth c H locs cells slots Q ad cls cy D A hx hb hC hR hP hS kk => lv_pop hx hb hd (by rw [cv_cat]; exact hv) (kk cls hP (okS.tl hS)))) k
theorem w_goto {off : Int} {tgt : Nat} (hd : decode M.2.1 pc = .ok (.goto off, 3)) (ht : (pc : Int) + off = (tgt : Int)) (k : WP X M d L (tgt) ls (st) h Q) : WP X M d L pc ls (st) h Q :=
  WP.mp (fun _ _ => Rt.pure (fun p l e R s m args below meth c H locs cells slots Q ad cls cy D A hx hb hC hR hP hS kk => lv_goto hx hb hd ht (kk cls hP hS))) k
theorem w_if_eq {x : Int32} {off : Int} {tgt : Nat} (hd : decode M.2.1 pc = .ok (.ifCond .eq off, 3)) (ht : (pc : Int) + off = (tgt : Int)) (kt : x = 0 → WP X M d L tgt ls st h Q) (kf : ¬ x = 0 → WP X M d L (pc + 3) ls st h Q) : WP X M d L pc ls (.int x :: st) h Q := by
  by_cases e : x = 0
  · exact WP.mp (fun _ _ => Rt.pure (fun p l e9 R s m args below meth c9 H locs cells slots Q ad cls cy D A hx hb hC hR hP hS kk => lv_if_eq hx hb hd ht (fun _ => kk cls hP (okS.tl hS)) (fun n => absurd e n))) (kt e)
  · exact WP.mp (fun _ _ => Rt.pure (fun p l e9 R s m args below meth c9 H locs cells slots Q ad cls cy D A hx hb hC hR hP hS kk => lv_if_eq hx hb hd ht (fun n => absurd n e) (fun _ => kk cls hP (okS.tl hS)))) (kf e)
theorem w_if_ne {x : Int32} {off : Int} {tgt : Nat} (hd : decode M.2.1 pc = .ok (.ifCond .ne off, 3)) (ht : (pc : Int) + off = (tgt : Int)) (kt : ¬ x = 0 → WP X M d L tgt ls st h Q) (kf : x = 0 → WP X M d L (pc + 3) ls st h Q) : WP X M d L pc ls (.int x :: st) h Q := by
  by_cases e : x = 0
  · exact WP.mp (fun _ _ => Rt.pure (fun p l e9 R s m args below meth c9 H locs cells slots Q ad cls cy D A hx hb hC hR hP hS kk => lv_if_ne hx hb hd ht (fun n => absurd e n) (fun _ => kk cls hP (okS.tl hS)))) (kf e)
  · exact WP.mp (fun _ _ => Rt.pure (fun p l e9 R s m args below meth c9 H locs cells slots Q ad cls cy D A hx hb hC hR hP hS kk => lv_if_ne hx hb hd ht (fun _ => kk cls hP (okS.tl hS)) (fun n => absurd n e))) (kt e)
theorem w_if_lt {x : Int32} {off : Int} {tgt : Nat} (hd : decode M.2.1 pc = .ok (.ifCond .lt off, 3)) (ht : (pc : Int) + off = (tgt : Int)) (kt : x < 0 → WP X M d L tgt ls st h Q) (kf : ¬ x < 0 → WP X M d L (pc + 3) ls st h Q) : WP X M d L pc ls (.int x :: st) h Q := by
  by_cases e : x < 0
  · exact WP.mp (fun _ _ => Rt.pure (fun p l e9 R s m args below meth c9 H locs cells slots Q ad cls cy D A hx hb hC hR hP hS kk => lv_if_lt hx hb hd ht (fun _ => kk cls hP (okS.tl hS)) (fun n => absurd e n))) (kt e)
  · exact WP.mp (fun _ _ => Rt.pure (fun p l e9 R s m args below meth c9 H locs cells slots Q ad cls cy D A hx hb hC hR hP hS kk => lv_if_lt hx hb hd ht (fun n => absurd n e) (fun _ => kk cls hP (okS.tl hS)))) (kf e)
theorem w_if_ge {x : Int32} {off : Int} {tgt : Nat} (hd : decode M.2.1 pc = .ok (.ifCond .ge off, 3)) (ht : (pc : Int) + off = (tgt : Int)) (kt : 0 ≤ x → WP X M d L tgt ls st h Q) (kf : ¬ 0 ≤ x → WP X M d L (pc + 3) ls st h Q) : WP X M d L pc ls (.int x :: st) h Q := by
  by_cases e : 0 ≤ x
  · exact WP.mp (fun _ _ => Rt.pure (fun p l e9 R s m args below meth c9 H locs cells slots Q ad cls cy D A hx hb hC hR hP hS kk => lv_if_ge hx hb hd ht (fun _ => kk cls hP (okS.tl hS)) (fun n => absurd e n))) (kt e)
  · exact WP.mp (fun _ _ => Rt.pure (fun p l e9 R s m args below meth c9 H locs cells slots Q ad cls cy D A hx hb hC hR hP hS kk => lv_if_ge hx hb hd ht (fun n => absurd n e) (fun _ => kk cls hP (okS.tl hS)))) (kf e)
theorem w_if_gt {x : Int32} {off : Int} {tgt : Nat} (hd : decode M.2.1 pc = .ok (.ifCond .gt off, 3)) (ht : (pc : Int) + off = (tgt : Int)) (kt : 0 < x → WP X M d L tgt ls st h Q) (kf : ¬ 0 < x → WP X M d L (pc + 3) ls st h Q) : WP X M d L pc ls (.int x :: st) h Q := by
  by_cases e : 0 < x
  · exact WP.mp (fun _ _ => Rt.pure (fun p l e9 R s m args below meth c9 H locs cells slots Q ad cls cy D A hx hb hC hR hP hS kk => lv_if_gt hx hb hd ht (fun _ => kk cls hP (okS.tl hS)) (fun n => absurd e n))) (kt e)
  · exact WP.mp (fun _ _ => Rt.pure (fun p l e9 R s m args below meth c9 H locs cells slots Q ad cls cy D A hx hb hC hR hP hS kk => lv_if_gt hx hb hd ht (fun n => absurd n e) (fun _ => kk cls hP (okS.tl hS)))) (kf e)
theorem w_if_le {x : Int32} {off : Int} {tgt : Nat} (hd : decode M.2.1 pc = .ok (.ifCond .le off, 3)) (ht : (pc : Int) + off = (tgt : Int)) (kt : x ≤ 0 → WP X M d L tgt ls st h Q) (kf : ¬ x ≤ 0 → WP X M d L (pc + 3) ls st h Q) : WP X M d L pc ls (.int x :: st) h Q := by
  by_cases e : x ≤ 0
  · exact WP.mp (fun _ _ => Rt.pure (fun p l e9 R s m args below meth c9 H locs cells slots Q ad cls cy D A hx hb hC hR hP hS kk => lv_if_le hx hb hd ht (fun _ => kk cls hP (okS.tl hS)) (fun n => absurd e n))) (kt e)
  · exact WP.mp (fun _ _ => Rt.pure (fun p l e9 R s m args below meth c9 H locs cells slots Q ad cls cy D A hx hb hC hR hP hS kk => lv_if_le hx hb hd ht (fun n => absurd n e) (fun _ => kk cls hP (okS.tl hS)))) (kf e)
theorem w_icmp_eq {x y : Int32} {off : Int} {tgt : Nat} (hd : decode M.2.1 pc = .ok (.if_icmp .eq off, 3)) (ht : (pc : Int) + off = (tgt : Int)) (kt : x = y → WP X M d L tgt ls st h Q) (kf : ¬ x = y → WP X M d L (pc + 3) ls st h Q) : WP X M d L pc ls (.int y :: .int x :: st) h Q := by
  by_cases e : x = y
  · exact WP.mp (fun _ _ => Rt.pure (fun p l e9 R s m args below meth c9 H locs cells slots Q ad cls cy D A hx hb hC hR hP hS kk => lv_icmp_eq hx hb hd ht (fun _ => kk cls hP (okS.tl (okS.tl hS))) (fun n => absurd e n))) (kt e)
  · exact WP.mp (fun _ _ => Rt.pure (fun p l e9 R s m args below meth c9 H locs cells slots Q ad cls cy D A hx hb hC hR hP hS kk => lv_icmp_eq hx hb hd ht (fun n => absurd n e) (fun _ => kk cls hP (okS.tl (okS.tl hS))))) (kf e)
theorem w_icmp_ne {x y : Int32} {off : Int} {tgt : Nat} (hd : decode M.2.1 pc = .ok (.if_icmp .ne off, 3)) (ht : (pc : Int) + off = (tgt : Int)) (kt : ¬ x = y → WP X M d L tgt ls st h Q) (kf : x = y → WP X M d L (pc + 3) ls st h Q) : WP X M d L pc ls (.int y :: .int x :: st) h Q := by
  by_cases e : x = y
  · exact WP.mp (fun _ _ => Rt.pure (fun p l e9 R s m args below meth c9 H locs cells slots Q ad cls cy D A hx hb hC hR hP hS kk => lv_icmp_ne hx hb hd ht (fun n => absurd e n) (fun _ => kk cls hP (okS.tl (okS.tl hS))))) (kf e)
  · exact WP.mp (fun _ _ => Rt.pure (fun p l e9 R s m args below meth c9 H locs cells slots Q ad cls cy D A hx hb hC hR hP hS kk => lv_icmp_ne hx hb hd ht (fun _ => kk cls hP (okS.tl (okS.tl hS))) (fun n => absurd n e))) (kt e)
theorem w_icmp_lt {x y : Int32} {off : Int} {tgt : Nat} (hd : decode M.2.1 pc = .ok (.if_icmp .lt off, 3)) (ht : (pc : Int) + off = (tgt : Int)) (kt : x < y → WP X M d L tgt ls st h Q) (kf : ¬ x < y → WP X M d L (pc + 3) ls st h Q) : WP X M d L pc ls (.int y :: .int x :: st) h Q := by
  by_cases e : x < y
  · exact WP.mp (fun _ _ => Rt.pure (fun p l e9 R s m args below meth c9 H locs cells slots Q ad cls cy D A hx hb hC hR hP hS kk => lv_icmp_lt hx hb hd ht (fun _ => kk cls hP (okS.tl (okS.tl hS))) (fun n => absurd e n))) (kt e)
  · exact WP.mp (fun _ _ => Rt.pure (fun p l e9 R s m args below meth c9 H locs cells slots Q ad cls cy D A hx hb hC hR hP hS kk => lv_icmp_lt hx hb hd ht (fun n => absurd n e) (fun _ => kk cls hP (okS.tl (okS.tl hS))))) (kf e)
theorem w_icmp_ge {x y : Int32} {off : Int} {tgt : Nat} (hd : decode M.2.1 pc = .ok (.if_icmp .ge off, 3)) (ht : (pc : Int) + off = (tgt : Int)) (kt : y ≤ x → WP X M d L tgt ls st h Q) (kf : ¬ y ≤ x → WP X M d L (pc + 3) ls st h Q) : WP X M d L pc ls (.int y :: .int x :: st) h Q := by
  by_cases e : y ≤ x
  · exact WP.mp (fun _ _ => Rt.pure (fun p l e9 R s m args below meth c9 H locs cells slots Q ad cls cy D A hx hb hC hR hP hS kk => lv_icmp_ge hx hb hd ht (fun _ => kk cls hP (okS.tl (okS.tl hS))) (fun n => absurd e n))) (kt e)
  · exact WP.mp (fun _ _ => Rt.pure (fun p l e9 R s m args below meth c9 H locs cells slots Q ad cls cy D A hx hb hC hR hP hS kk => lv_icmp_ge hx hb hd ht (fun n => absurd n e) (fun _ => kk cls hP (okS.tl (okS.tl hS))))) (kf e)
theorem w_icmp_gt {x y : Int32} {off : Int} {tgt : Nat} (hd : decode M.2.1 pc = .ok (.if_icmp .gt off, 3)) (ht : (pc : Int) + off = (tgt : Int)) (kt : y < x → WP X M d L tgt ls st h Q) (kf : ¬ y < x → WP X M d L (pc + 3) ls st h Q) : WP X M d L pc ls (.int y :: .int x :: st) h Q := by
  by_cases e : y < x
  · exact WP.mp (fun _ _ => Rt.pure (fun p l e9 R s m args below meth c9 H locs cells slots Q ad cls cy D A hx hb hC hR hP hS kk => lv_icmp_gt hx hb hd ht (fun _ => kk cls hP (okS.tl (okS.tl hS))) (fun n => absurd e n))) (kt e)
  · exact WP.mp (fun _ _ => Rt.pure (fun p l e9 R s m args below meth c9 H locs cells slots Q ad cls cy D A hx hb hC hR hP hS kk => lv_icmp_gt hx hb hd ht (fun n => absurd n e) (fun _ => kk cls hP (okS.tl (okS.tl hS))))) (kf e)
theorem w_icmp_le {x y : Int32} {off : Int} {tgt : Nat} (hd : decode M.2.1 pc = .ok (.if_icmp .le off, 3)) (ht : (pc : Int) + off = (tgt : Int)) (kt : x ≤ y → WP X M d L tgt ls st h Q) (kf : ¬ x ≤ y → WP X M d L (pc + 3) ls st h Q) : WP X M d L pc ls (.int y :: .int x :: st) h Q := by
  by_cases e : x ≤ y
  · exact WP.mp (fun _ _ => Rt.pure (fun p l e9 R s m args below meth c9 H locs cells slots Q ad cls cy D A hx hb hC hR hP hS kk => lv_icmp_le hx hb hd ht (fun _ => kk cls hP (okS.tl (okS.tl hS))) (fun n => absurd e n))) (kt e)
  · exact WP.mp (fun _ _ => Rt.pure (fun p l e9 R s m args below meth c9 H locs cells slots Q ad cls cy D A hx hb hC hR hP hS kk => lv_icmp_le hx hb hd ht (fun n => absurd n e) (fun _ => kk cls hP (okS.tl (okS.tl hS))))) (kf e)
theorem w_ifnull {a : Nat} {off : Int} (hd : decode M.2.1 pc = .ok (.ifnull off, 3)) (k : WP X M d L (pc + 3) ls (st) h Q) : WP X M d L pc ls (.ref a :: st) h Q :=
  WP.mp (fun _ _ => Rt.pure (fun p l e R s m args below meth c H locs cells slots Q ad cls cy D A hx hb hC hR hP hS kk => lv_ifnull hx hb hd (kk cls hP (okS.tl hS)))) k
theorem w_ifnullN {off : Int} {tgt : Nat} (hd : decode M.2.1 pc = .ok (.ifnull off, 3)) (ht : (pc : Int) + off = (tgt : Int)) (k : WP X M d L (tgt) ls (st) h Q) : WP X M d L pc ls (.null :: st) h Q :=
  WP.mp (fun _ _ => Rt.pure (fun p l e R s m args below meth c H locs cells slots Q ad cls cy D A hx hb hC hR hP hS kk => lv_ifnullN hx hb hd ht (kk cls hP (okS.tl hS)))) k
theorem w_ifnonnull {a : Nat} {off : Int} {tgt : Nat} (hd : decode M.2.1 pc = .ok (.ifnonnull off, 3)) (ht : (pc : Int) + off = (tgt : Int)) (k : WP X M d L (tgt) ls (st) h Q) : WP X M d L pc ls (.ref a :: st) h Q :=
  WP.mp (fun _ _ => Rt.pure (fun p l e R s m args below meth c H locs cells slots Q ad cls cy D A hx hb hC hR hP hS kk => lv_ifnonnull hx hb hd ht (kk cls hP (okS.tl hS)))) k
theorem w_ifnonnullN {off : Int} (hd : decode M.2.1 pc = .ok (.ifnonnull off, 3)) (k : WP X M d L (pc + 3) ls (st) h Q) : WP X M d L pc ls (.null :: st) h Q :=
  WP.mp (fun _ _ => Rt.pure (fun p l e R s m args below meth c H locs cells slots Q ad cls cy D A hx hb hC hR hP hS kk => lv_ifnonnullN hx hb hd (kk cls hP (okS.tl hS)))) k
theorem w_tableOut {dflt lo hi : Int} {offs : Array Int} {len : Nat} {x : Int32} {tgt : Nat} (hd : decode M.2.1 pc = .ok (.tableswitch dflt lo hi offs, len)) (hx9 : x.toInt < lo ∨ hi < x.toInt) (ht : (pc : Int) + dflt = (tgt : Int)) (k : WP X M d L (tgt) ls (st) h Q) : WP X M d L pc ls (.int x :: st) h Q :=
  WP.mp (fun _ _ => Rt.pure (fun p l e R s m args below meth c H locs cells slots Q ad cls cy D A hx hb hC hR hP hS kk => lv_tableOut hx hb hd hx9 ht (kk cls hP (okS.tl hS)))) k
theorem w_tableIn {dflt lo hi : Int} {offs : Array Int} {len : Nat} {x : Int32} {off : Int} {tgt : Nat} (hd : decode M.2.1 pc = .ok (.tableswitch dflt lo hi offs, len)) (h1 : ¬ x.toInt < lo) (h2 : ¬ hi < x.toInt) (ho : offs[(x.toInt - lo).toNat]? = some off) (ht : (pc : Int) + off = (tgt : Int)) (k : WP X M d L (tgt) ls (st) h Q) : WP X M d L pc ls (.int x :: st) h Q :=
  WP.mp (fun _ _ => Rt.pure (fun p l e R s m args below meth c H locs cells slots Q ad cls cy D A hx hb hC hR hP hS kk => lv_tableIn hx hb hd h1 h2 ho ht (kk cls hP (okS.tl hS)))) k
theorem w_lookup {dflt : Int} {ps : Array (Int × Int)} {len : Nat} {x : Int32} {off : Int} {tgt : Nat} (hd : decode M.2.1 pc = .ok (.lookupswitch dflt ps, len)) (hp : (ps.toList.zip (ps.toList.drop 1)).all (fun (a, next) => a.1 < next.1) = true) (ho : Op.lookupswitch.offset ps.toList dflt x.toInt = off) (ht : (pc : Int) + off = (tgt : Int)) (k : WP X M d L (tgt) ls (st) h Q) : WP X M d L pc ls (.int x :: st) h Q :=
  WP.mp (fun _ _ => Rt.pure (fun p l e R s m args below meth c H locs cells slots Q ad cls cy D A hx hb hC hR hP hS kk => lv_lookup hx hb hd hp ho ht (kk cls hP (okS.tl hS)))) k
/-- the ends of a run -/
theorem w_vret (hd : decode M.2.1 pc = .ok (.return_, 1)) (k : Q none h) : WP X M d L pc ls [] h Q :=
  ⟨none, h, ⟨Nat.le_refl _, Nat.le_refl _, Nat.le_refl _, fun p l e R s m args below meth c cy D A ad H locs cls c0 s0 Qf hC h1 h2 h3 h4 h5 h6 hR hP hS hEnd => hEnd ad H locs cls pc (fun _ _ => rfl) hR hd (fun v e => by cases e) hP.1⟩, k⟩
theorem w_iret {v : Int32} (hd : decode M.2.1 pc = .ok (.ireturn, 1)) (hn9 : ∀ ty, M.2.2.2.1 = some ty → narrow ty (.int v) = .int v) (k : Q (some (.int v)) h) : WP X M d L pc ls [.int v] h Q :=
  ⟨some (.int v), h, ⟨Nat.le_refl _, Nat.le_refl _, Nat.le_refl _, fun p l e R s m args below meth c cy D A ad H locs cls c0 s0 Qf hC h1 h2 h3 h4 h5 h6 hR hP hS hEnd => hEnd ad H locs cls pc (fun _ _ => rfl) hR ⟨hd, hn9⟩ (fun v e => by cases e; exact okv_int _ _) hP.1⟩, k⟩
theorem w_aret {a : Nat} (hd : decode M.2.1 pc = .ok (.areturn, 1)) (k : Q (some (.ref a)) h) : WP X M d L pc ls [.ref a] h Q :=
  ⟨some (.ref a), h, ⟨Nat.le_refl _, Nat.le_refl _, Nat.le_refl _, fun p l e R s m args below meth c cy D A ad H locs cls c0 s0 Qf hC h1 h2 h3 h4 h5 h6 hR hP hS hEnd => hEnd ad H locs cls pc (fun _ _ => rfl) hR hd (fun v e => by cases e; exact hS _ List.mem_cons_self) hP.1⟩, k⟩
theorem w_aretN (hd : decode M.2.1 pc = .ok (.areturn, 1)) (k : Q (some .null) h) : WP X M d L pc ls [.null] h Q :=
  ⟨some .null, h, ⟨Nat.le_refl _, Nat.le_refl _, Nat.le_refl _, fun p l e R s m args below meth c cy D A ad H locs cls c0 s0 Qf hC h1 h2 h3 h4 h5 h6 hR hP hS hEnd => hEnd ad H locs cls pc (fun _ _ => rfl) hR hd (fun v e => by cases e; exact okv_null _) hP.1⟩, k⟩
/-- a throw's own 'new': the run ends there (what it throws is told by the pc) -/
theorem w_throw (k : Q (some (.retAddr pc)) h) : WP X M d L pc ls [] h Q :=
  ⟨some (.retAddr pc), h, ⟨Nat.le_refl _, Nat.le_refl _, Nat.le_refl _, fun p l e R s m args below meth c cy D A ad H locs cls c0 s0 Qf hC h1 h2 h3 h4 h5 h6 hR hP hS hEnd => hEnd ad H locs cls pc (fun _ _ => rfl) hR rfl (fun v e => by cases e; intro a e; cases e) hP.1⟩, k⟩
end PR
