/-! THE LAW's RELATION between the heap and what both sides hold; what each side's calls leave alone -/
section KP
variable {h h' : PH} {σ τ : MS} {T L : List Int32} {κ : KE} {n : Nat}
theorem PgC.keep {me : Nat → Int32} (q : PgC h me) (e : hn h' = hn h) (r : hR h' 17 = hR h 17) (i : ∀ a, 40 ≤ a → hI h' a = hI h a) : PgC h' me := by
  obtain ⟨q1, q2, q3, q4⟩ := q
  refine ⟨fun p b hp hb => by rw [r] at hb; rw [e]; exact q1 p b hp hb, fun p p' b hp hp' hb hb' => by rw [r] at hb hb'; exact q2 p p' b hp hp' hb hb', ?_, fun a ha => ?_⟩
  · unfold nn at q3 ⊢
    rw [e, r]; exact q3
  · rw [← q4 a ha]
    unfold memAt
    rw [r]
    cases w : hR h 17 (a / 256) with
    | none => rfl
    | some b =>
      show hI h' b (a % 256) = hI h b (a % 256)
      rw [i b (q1 (a / 256) b (by omega) w).1]
theorem RC.keep (q : RC h σ) (S : St h') (e : hn h' = hn h) (r : hR h' 17 = hR h 17) (i : ∀ a, (13 ≤ a ∧ a ≤ 21) ∨ 40 ≤ a → hI h' a = hI h a) : RC h' σ := by
  obtain ⟨q1, q2, ⟨f, f1, f2, f3, f4, f5⟩, ⟨p1, p2, p3⟩, q5, q6, q7, q8, q9, q10, q11⟩ := q
  refine ⟨S, q2.keep e r (fun a ha => i a (Or.inr ha)), ⟨f, f1, ?_, ?_, f4, fun j v hv => ?_⟩, ⟨?_, p2, fun j v hv => ?_⟩, fun k hk => ?_, fun k hk => ?_, ?_, ?_, ?_, ?_, ?_⟩
  · rw [i 18 (by omega)]; exact f2
  · rw [i 18 (by omega)]; exact f3
  · rw [i 19 (by omega)]; exact f5 j v hv
  · rw [i 20 (by omega)]; exact p1
  · rw [i 21 (by omega)]; exact p3 j v hv
  · rw [i 14 (by omega)]; exact q5 k hk
  · rw [i 15 (by omega)]; exact q6 k hk
  · rw [i 13 (by omega)]; exact q7
  · rw [i 13 (by omega)]; exact q8
  · rw [i 18 (by omega)]; exact q9
  · rw [i 18 (by omega)]; exact q10
  · rw [i 20 (by omega)]; exact q11
theorem BY.keep {c a cap : Nat} (q : BY c a cap h T) (i : hI h' c = hI h c) (j : hI h' a = hI h a) : BY c a cap h' T := by
  obtain ⟨q1, q2, q3⟩ := q
  exact ⟨by rw [i]; exact q1, q2, fun k v hv => by rw [j]; exact q3 k v hv⟩
theorem RM.keep (q : RM h τ) (S : St h') (i : ∀ a, 26 ≤ a ∧ a ≤ 29 → hI h' a = hI h a) (j : ∀ k, 0 < k ∧ k < 20 → hI h' 25 k = hI h 25 k) : RM h' τ := by
  obtain ⟨q1, q2, ⟨k1, k2, k3⟩, ⟨p1, p2, p3⟩, q5, q6⟩ := q
  refine ⟨S, fun a ha => by rw [i 26 (by omega)]; exact q2 a ha, ⟨by rw [j 11 (by omega)]; exact k1, k2, fun m v hv => by rw [i 28 (by omega)]; exact k3 m v hv⟩, ⟨by rw [j 14 (by omega)]; exact p1, p2, fun m v hv => by rw [i 29 (by omega)]; exact p3 m v hv⟩, fun k hk => by rw [i 27 (by omega)]; exact q5 k hk, fun z hz => ?_⟩
  have hz2 : 0 < z.1 ∧ z.1 < 20 := by
    have : fmT.all (fun z => decide (0 < z.1) && decide (z.1 < 20)) = true := by decide
    have := List.all_eq_true.mp this z hz
    simpa using this
  rw [j z.1 hz2]; exact q6 z hz
theorem RTp.keep (q : RTp n h T) (S : St h') (j : hI h' 25 21 = hI h 25 21) (i : hI h' 30 = hI h 30) : RTp n h' T := by
  obtain ⟨q1, q2, q3, q4⟩ := q
  exact ⟨S, by rw [j]; exact q2, q3, fun k v hv => by rw [i]; exact q4 k v hv⟩
theorem LR.keep (q : LR h L) (j : hI h' 25 38 = hI h 25 38) (i : hI h' 37 = hI h 37) : LR h' L := by
  obtain ⟨q2, q3, q4⟩ := q
  exact ⟨by rw [j]; exact q2, q3, fun k v hv => by rw [i]; exact q4 k v hv⟩
theorem CK.keep (q : CK h κ) (r : hR h' 3 = hR h 3) (i : ∀ a, 3 ≤ a ∧ a ≤ 11 → hI h' a = hI h a) : CK h' κ := by
  obtain ⟨D, hD, r4, r5, i6, i7, i8, ⟨g1, g1'⟩, g2, ⟨g3, g3'⟩, g4, g5, g6, g7⟩ := q
  have i3 := i 3 (by omega)
  have hE : 15 - D = 9 ∨ 15 - D = 6 := by omega
  refine ⟨D, hD, by rw [r]; exact r4, by rw [r]; exact r5, by rw [i3]; exact i6, by rw [i3]; exact i7, by rw [i3]; exact i8, ⟨by rw [i (15 - D) (by omega)]; exact g1, g1'⟩, fun k v hv => by rw [i (15 - D + 1) (by omega)]; exact g2 k v hv, ⟨by rw [i (15 - D) (by omega)]; exact g3, g3'⟩, fun k v hv => by rw [i (15 - D + 2) (by omega)]; exact g4 k v hv, by rw [i (15 - D) (by omega)]; exact g5, g6, g7⟩
theorem MK.keep (q : MK h κ) (j : ∀ k, 23 ≤ k ∧ k ≤ 29 → hI h' 25 k = hI h 25 k) (i : ∀ a, a = 31 ∨ a = 32 → hI h' a = hI h a) : MK h' κ := by
  obtain ⟨q1, q2, q3, ⟨q4, q4'⟩, q5, ⟨q6, q6'⟩, q7, q8⟩ := q
  exact ⟨by rw [j 25 (by omega)]; exact q1, by rw [j 28 (by omega)]; exact q2, by rw [j 29 (by omega)]; exact q3, ⟨by rw [j 23 (by omega)]; exact q4, q4'⟩, fun k v hv => by rw [i 31 (by omega)]; exact q5 k v hv, ⟨by rw [j 27 (by omega)]; exact q6, q6'⟩, fun k v hv => by rw [i 32 (by omega)]; exact q7 k v hv, by rw [j 24 (by omega)]; exact q8⟩
end KP
/-- the slots of all that the constructors make -/
def zS : Nat := hs zC
/-- how many cells and slots there are: e of the cells are exceptions -/
def BG (e : Nat) (h : PH) : Prop := hc h = hn h + e ∧ hs h + 10240 = zS + 256 * hn h + 6 * e
/-- the class's machine σ, TAPE T, LINE L, assembler κ; the reference's τ, T', L', κ' -/
def HH (e : Nat) (h : PH) (σ τ : MS) (T T' L L' : List Int32) (κ κ' : KE) : Prop := BG e h ∧ RC h σ ∧ RM h τ ∧ TC h T ∧ RTp T'.length h T' ∧ LC h L ∧ LR h L' ∧ CK h κ ∧ MK h κ'
section HHS
variable {e : Nat} {h h' : PH} {σ τ σ1 τ1 : MS} {T T' L L' T1 L1 : List Int32} {κ κ' κ1 : KE} {v : Int32} {n : Nat}
theorem BG.sm {l : List Nat} (b : BG e h) (f : Sm l h h') : BG e h' := by
  obtain ⟨b1, b2⟩ := b
  exact ⟨by rw [f.1, f.2.1]; exact b1, by rw [f.1, f.2.2.1]; exact b2⟩
/-- the class's machine -/
theorem HH.cm (q : HH e h σ τ T T' L L' κ κ') (f : Fm h h') (r : RC h' σ1) : HH e h' σ1 τ T T' L L' κ κ' := by
  obtain ⟨⟨b1, b2⟩, q1, q2, q3, q4, q5, q6, q7, q8⟩ := q
  obtain ⟨f1, f2, f3, f4, f5, f6⟩ := f
  have S := r.1
  refine ⟨⟨by omega, by omega⟩, r, q2.keep S (fun a ha => f5 a (by omega) (by omega)) (fun k _ => by rw [f5 25 (by omega) (by omega)]), ⟨S, q3.2.keep (f5 1 (by omega) (by omega)) (f5 2 (by omega) (by omega))⟩, q4.keep S (by rw [f5 25 (by omega) (by omega)]) (f5 30 (by omega) (by omega)), ⟨S, q5.2.keep (f5 23 (by omega) (by omega)) (f5 24 (by omega) (by omega))⟩, q6.keep (by rw [f5 25 (by omega) (by omega)]) (f5 37 (by omega) (by omega)), q7.keep (f4 3 (by omega) (by omega)) (fun a ha => f5 a (by omega) (by omega)), q8.keep (fun k _ => by rw [f5 25 (by omega) (by omega)]) (fun a ha => f5 a (by omega) (by omega))⟩
/-- cells of l alone change, none of which is the class's machine's -/
theorem RC.sm {l : List Nat} (q : RC h σ) (f : Sm l h h') (hl : ∀ a ∈ l, a < 13 ∨ (21 < a ∧ a < 40)) : RC h' σ :=
  q.keep (f.st q.1) f.1 (by rw [f.2.2.2.1]) (fun a ha => f.I (fun z => by have := hl a z; omega))
theorem HH.th (q : HH e h σ τ T T' L L' κ κ') : HH e (sI h 25 0 v) σ τ T T' L L' κ κ' := by
  obtain ⟨b, q1, q2, q3, q4, q5, q6, q7, q8⟩ := q
  have f : Sm [25] h (sI h 25 0 v) := Sm.rf.i (by decide)
  have S := f.st q1.1
  have k0 : ∀ k, 0 < k → hI (sI h 25 0 v) 25 k = hI h 25 k := fun k hk => rI_k (by omega)
  exact ⟨b.sm f, q1.sm f (by decide), q2.thr, ⟨S, q3.2.keep (f.I (by decide)) (f.I (by decide))⟩, q4.keep S (k0 21 (by omega)) (f.I (by decide)), ⟨S, q5.2.keep (f.I (by decide)) (f.I (by decide))⟩, q6.thr, q7.keep rfl (fun a ha => f.I (by simp; omega)), q8.keep (fun k hk => k0 k (by omega)) (fun a ha => f.I (by simp; omega))⟩
/-- the reference's machine -/
theorem HH.mm (q : HH e h σ τ T T' L L' κ κ') (f : FR (sI h 25 0 v) h') (r : RM h' τ1) : HH e h' σ τ1 T T' L L' κ κ' := by
  obtain ⟨b, q1, q2, q3, q4, q5, q6, q7, q8⟩ := q.th (v := v)
  obtain ⟨f, g⟩ := f
  have S := r.1
  exact ⟨b.sm f, q1.sm f (by decide), r, ⟨S, q3.2.keep (f.I (by decide)) (f.I (by decide))⟩, q4.keep S (g 21 (by omega)) (f.I (by decide)), ⟨S, q5.2.keep (f.I (by decide)) (f.I (by decide))⟩, q6.keep (g 38 (by omega)) (f.I (by decide)), q7.keep (by rw [f.2.2.2.1]) (fun a ha => f.I (by simp; omega)), q8.keep (fun k hk => g k (by omega)) (fun a ha => f.I (by simp; omega))⟩
/-- the class's TAPE -/
theorem HH.ct (q : HH e h σ τ T T' L L' κ κ') (f : Sm [1, 2] h h') (r : TC h' T1) : HH e h' σ τ T1 T' L L' κ κ' := by
  obtain ⟨b, q1, q2, q3, q4, q5, q6, q7, q8⟩ := q
  have S := r.1
  exact ⟨b.sm f, q1.sm f (by decide), q2.keep S (fun a ha => f.I (by simp; omega)) (fun k _ => by rw [f.I (by decide)]), r, q4.keep S (by rw [f.I (by decide)]) (f.I (by decide)), ⟨S, q5.2.keep (f.I (by decide)) (f.I (by decide))⟩, q6.keep (by rw [f.I (by decide)]) (f.I (by decide)), q7.keep (by rw [f.2.2.2.1]) (fun a ha => f.I (by simp; omega)), q8.keep (fun k hk => by rw [f.I (by decide)]) (fun a ha => f.I (by simp; omega))⟩
/-- the reference's TAPE -/
theorem HH.mt (q : HH e h σ τ T T' L L' κ κ') (f : FT (sI h 25 0 v) h') (r : RTp n h' T1) (hn9 : n = T1.length) : HH e h' σ τ T T1 L L' κ κ' := by
  obtain ⟨b, q1, q2, q3, q4, q5, q6, q7, q8⟩ := q.th (v := v)
  obtain ⟨f, g⟩ := f
  subst hn9
  have S := r.1
  exact ⟨b.sm f, q1.sm f (by decide), q2.keep S (fun a ha => f.I (by simp; omega)) (fun k hk => g k (by omega)), ⟨S, q3.2.keep (f.I (by decide)) (f.I (by decide))⟩, r, ⟨S, q5.2.keep (f.I (by decide)) (f.I (by decide))⟩, q6.keep (g 38 (by omega)) (f.I (by decide)), q7.keep (by rw [f.2.2.2.1]) (fun a ha => f.I (by simp; omega)), q8.keep (fun k hk => g k (by omega)) (fun a ha => f.I (by simp; omega))⟩
/-- the class's assembler -/
theorem HH.ca (q : HH e h σ τ T T' L L' κ κ') (f : FC h h') (r : CK h' κ1) (r2 : TC h' T1) : HH e h' σ τ T1 T' L L' κ1 κ' := by
  obtain ⟨⟨b1, b2⟩, q1, q2, q3, q4, q5, q6, q7, q8⟩ := q
  obtain ⟨f1, f2, f3, f4⟩ := f
  have S := r2.1
  have i : ∀ a, 12 < a → hI h' a = hI h a := fun a ha => (f4 a (Or.inr ha)).1
  exact ⟨⟨by rw [f1, f2]; exact b1, by rw [f1, f3]; exact b2⟩, q1.keep S f1 (f4 17 (by omega)).2.2 (fun a ha => i a (by omega)), q2.keep S (fun a ha => i a (by omega)) (fun k _ => by rw [i 25 (by omega)]), r2, q4.keep S (by rw [i 25 (by omega)]) (i 30 (by omega)), ⟨S, q5.2.keep (i 23 (by omega)) (i 24 (by omega))⟩, q6.keep (by rw [i 25 (by omega)]) (i 37 (by omega)), r, q8.keep (fun k hk => by rw [i 25 (by omega)]) (fun a ha => i a (by omega))⟩
/-- the reference's assembler -/
theorem HH.ma (q : HH e h σ τ T T' L L' κ κ') (f : FM h h') (r : MK h' κ1) (r2 : RTp 0 h' []) : HH e h' σ τ T [] L L' κ κ1 := by
  obtain ⟨b, q1, q2, q3, q4, q5, q6, q7, q8⟩ := q
  obtain ⟨f, g⟩ := f
  have S := r2.1
  exact ⟨b.sm f, q1.sm f (by decide), q2.keep S (fun a ha => f.I (by simp; omega)) (fun k hk => g k (Or.inl hk)), ⟨S, q3.2.keep (f.I (by decide)) (f.I (by decide))⟩, r2, ⟨S, q5.2.keep (f.I (by decide)) (f.I (by decide))⟩, q6.keep (g 38 (Or.inr rfl)) (f.I (by decide)), q7.keep (by rw [f.2.2.2.1]) (fun a ha => f.I (by simp; omega)), r⟩
/-- the class's LINE -/
theorem HH.cw (q : HH e h σ τ T T' L L' κ κ') (f : Sm [23, 24] h h') (r : LC h' L1) : HH e h' σ τ T T' L1 L' κ κ' := by
  obtain ⟨b, q1, q2, q3, q4, q5, q6, q7, q8⟩ := q
  have S := r.1
  exact ⟨b.sm f, q1.sm f (by decide), q2.keep S (fun a ha => f.I (by simp; omega)) (fun k _ => by rw [f.I (by decide)]), ⟨S, q3.2.keep (f.I (by decide)) (f.I (by decide))⟩, q4.keep S (by rw [f.I (by decide)]) (f.I (by decide)), r, q6.keep (by rw [f.I (by decide)]) (f.I (by decide)), q7.keep (by rw [f.2.2.2.1]) (fun a ha => f.I (by simp; omega)), q8.keep (fun k hk => by rw [f.I (by decide)]) (fun a ha => f.I (by simp; omega))⟩
/-- the reference's LINE -/
theorem HH.mw (q : HH e h σ τ T T' L L' κ κ') (f : FW (sI (sI h 25 0 0) 25 38 0) h') (r : LW h' L1) (hl : L1.length ≤ 32) : HH e h' σ τ T T' L L1 κ κ' := by
  obtain ⟨b, q1, q2, q3, q4, q5, q6, q7, q8⟩ := q
  obtain ⟨f, g⟩ := f
  have f0 : Sm [25, 37] h (sI (sI h 25 0 0) 25 38 0) := (Sm.rf.i (by decide)).i (by decide)
  have f := f0.tr f
  have g : ∀ k, k ≠ 0 → k ≠ 38 → hI h' 25 k = hI h 25 k := fun k h1 h2 => by rw [g k h2, rI_k h2, rI_k h1]
  have S := r.1
  exact ⟨b.sm f, q1.sm f (by decide), q2.keep S (fun a ha => f.I (by simp; omega)) (fun k hk => g k (by omega) (by omega)), ⟨S, q3.2.keep (f.I (by decide)) (f.I (by decide))⟩, q4.keep S (g 21 (by omega) (by omega)) (f.I (by decide)), ⟨S, q5.2.keep (f.I (by decide)) (f.I (by decide))⟩, ⟨r.2.1, hl, r.2.2.2⟩, q7.keep (by rw [f.2.2.2.1]) (fun a ha => f.I (by simp; omega)), q8.keep (fun k hk => g k (by omega) (by omega)) (fun a ha => f.I (by simp; omega))⟩
/-- out[0]; an exception's cell -/
theorem HH.ol {w : Int64} (q : HH e h σ τ T T' L L' κ κ') : HH e (sL h 39 0 w) σ τ T T' L L' κ κ' := q
theorem HH.hx (q : HH e h σ τ T T' L L' κ κ') : HH (e + 1) (hX h) σ τ T T' L L' κ κ' := by
  obtain ⟨⟨b1, b2⟩, q⟩ := q
  exact ⟨⟨by show hc h + 1 = hn h + (e + 1); omega, by show hs h + 6 + 10240 = zS + 256 * hn h + 6 * (e + 1); omega⟩, q⟩
end HHS
