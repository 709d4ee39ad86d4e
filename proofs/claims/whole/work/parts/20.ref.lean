/-! THE REFERENCE: its machine as numbers (as the class's; 14 is 0 or 1 here, 21 isFault) -/
def fmT : List (Nat × Nat) := [(3, 8), (4, 9), (5, 10), (6, 11), (7, 12), (8, 14), (9, 13), (13, 15), (15, 16), (16, 17), (17, 18), (18, 19), (19, 21)]
def KbM (h : PH) (ks : List Int32) : Prop := hI h 25 11 = nI ks.length ∧ ks.length ≤ 100 ∧ ∀ (i : Nat) (v : Int32), ks[i]? = some v → hI h 28 i = v
def PrM (h : PH) (ps : List Int32) : Prop := hI h 25 14 = nI ps.length ∧ ps.length ≤ 4000 ∧ ∀ (i : Nat) (v : Int32), ps[i]? = some v → hI h 29 i = v
/-- the reference's machine is τ -/
def RM (h : PH) (τ : MS) : Prop := St h ∧ (∀ a, a < 65536 → hI h 26 a = τ.2.1 a) ∧ KbM h τ.2.2.1 ∧ PrM h τ.2.2.2 ∧ (∀ k, k < 8 → hI h 27 k = τ.1 k) ∧ ∀ q ∈ fmT, hI h 25 q.1 = τ.1 q.2
def FR (h h' : PH) : Prop := Sm [25, 26, 27, 28, 29] h h' ∧ ∀ k, (k = 0 ∨ 20 ≤ k) → hI h' 25 k = hI h 25 k
theorem FR.rf {h : PH} : FR h h := ⟨Sm.rf, fun _ _ => rfl⟩
theorem FR.tr {h h1 h2 : PH} (q : FR h h1) (r : FR h1 h2) : FR h h2 := ⟨q.1.tr r.1, fun k hk => (r.2 k hk).trans (q.2 k hk)⟩
theorem FR.f {h h' : PH} (q : FR h h') {k : Nat} {v : Int32} (hk : 0 < k ∧ k < 20) : FR h (sI h' 25 k v) := ⟨q.1.i (by decide), fun j hj => (rI_k (by omega)).trans (q.2 j hj)⟩
theorem FR.a {h h' : PH} (q : FR h h') {a k : Nat} {v : Int32} (ha : 26 ≤ a ∧ a ≤ 29) : FR h (sI h' a k v) := ⟨q.1.i (by simp; omega), fun j hj => (rI_a (by omega)).trans (q.2 j hj)⟩
theorem fm_in {q : Nat × Nat} (h : q ∈ fmT) : q.1 ≠ 11 ∧ q.1 ≠ 14 ∧ 0 < q.1 ∧ q.1 < 20 ∧ 8 ≤ q.2 := by
  have := List.all_eq_true.mp (show fmT.all (fun q => decide (q.1 ≠ 11 ∧ q.1 ≠ 14 ∧ 0 < q.1 ∧ q.1 < 20 ∧ 8 ≤ q.2)) = true by decide) q h
  simpa using this
theorem fm_eq {q r : Nat × Nat} (h : q ∈ fmT) (g : r ∈ fmT) : q.1 = r.1 ↔ q.2 = r.2 := by
  have h1 := List.all_eq_true.mp (show fmT.all (fun q => fmT.all (fun r => decide (q.1 = r.1 ↔ q.2 = r.2))) = true by decide) q h
  have h2 := List.all_eq_true.mp h1 r g
  exact of_decide_eq_true h2
section RML
variable {h : PH} {τ : MS} {v : Int32} {k j : Nat}
theorem RM.fld (q : RM h τ) (hk : (k, j) ∈ fmT) : RM (sI h 25 k v) (sG τ j v) := by
  obtain ⟨q1, q2, q3, q4, q5, q6⟩ := q
  have hi := fm_in hk
  have h11 : k ≠ 11 := hi.1
  have h14 : k ≠ 14 := hi.2.1
  have h8 : 8 ≤ j := hi.2.2.2.2
  refine ⟨q1.i, fun a ha => (rI_a (by decide)).trans (q2 a ha), ⟨(rI_k (Ne.symm h11)).trans q3.1, q3.2.1, fun i w hw => (rI_a (by decide)).trans (q3.2.2 i w hw)⟩, ⟨(rI_k (Ne.symm h14)).trans q4.1, q4.2.1, fun i w hw => (rI_a (by decide)).trans (q4.2.2 i w hw)⟩, fun x hx => ?_, fun r hr => ?_⟩
  · exact ((rI_a (by decide)).trans (q5 x hx)).trans (sG_o (by omega)).symm
  · have he := fm_eq hr hk
    by_cases e : r.1 = k
    · have e2 : r.2 = j := he.mp e
      rw [e, e2, rI_s, sG_s]
    · rw [rI_k e, sG_o (fun z => e (he.mpr z))]; exact q6 r hr
theorem RM.reg (q : RM h τ) (hk : k < 8) : RM (sI h 27 k v) (sG τ k v) := by
  obtain ⟨q1, q2, q3, q4, q5, q6⟩ := q
  refine ⟨q1.i, fun a ha => (rI_a (by decide)).trans (q2 a ha), ⟨(rI_a (by decide)).trans q3.1, q3.2.1, fun i w hw => (rI_a (by decide)).trans (q3.2.2 i w hw)⟩, ⟨(rI_a (by decide)).trans q4.1, q4.2.1, fun i w hw => (rI_a (by decide)).trans (q4.2.2 i w hw)⟩, fun x hx => ?_, fun r hr => ?_⟩
  · by_cases e : x = k
    · rw [e, rI_s, sG_s]
    · rw [rI_k e, sG_o e]; exact q5 x hx
  · have := (fm_in hr).2.2.2.2
    rw [rI_a (by decide), sG_o (by omega)]; exact q6 r hr
theorem RM.mem (q : RM h τ) : RM (sI h 26 k v) (sM τ k v) := by
  obtain ⟨q1, q2, q3, q4, q5, q6⟩ := q
  refine ⟨q1.i, fun a ha => ?_, ⟨(rI_a (by decide)).trans q3.1, q3.2.1, fun i w hw => (rI_a (by decide)).trans (q3.2.2 i w hw)⟩, ⟨(rI_a (by decide)).trans q4.1, q4.2.1, fun i w hw => (rI_a (by decide)).trans (q4.2.2 i w hw)⟩, fun x hx => (rI_a (by decide)).trans (q5 x hx), fun r hr => (rI_a (by decide)).trans (q6 r hr)⟩
  show _ = va_up τ.2.1 k v a
  rw [va_upv]
  by_cases e : a = k
  · rw [if_pos e, e, rI_s]
  · rw [if_neg e, rI_k e]; exact q2 a ha
end RML
section MM9
variable {X : Nat × (Nat → Int32)} {M : MR} {d L pc idx ci k j : Nat} {ty : FieldType} {f9 : Bool} {ls : List (Option Value)} {st : List Value} {h0 h : PH} {τ : MS} {Q : Option Value → PH → Prop} {i v : Int32}
theorem y_get (q : RM h τ) (hd : decode M.2.1 pc = .ok (.getfield idx, 3)) (hf : FL M.1 idx 10 k ty f9) (hm : (k, j) ∈ fmT) (h0 : fk 10 k = 0) (kk : WP X M d L (pc + 3) ls (.int (τ.1 j) :: st) h Q) : WP X M d L pc ls (.ref 25 :: st) h Q :=
  w_gi q.1 hd hf h0 rfl (by decide) (by rw [q.2.2.2.2.2 _ hm]; exact kk)
theorem y_put (f : FR h0 h) (q : RM h τ) (hd : decode M.2.1 pc = .ok (.putfield idx, 3)) (hf : FL M.1 idx 10 k .int false) (hm : (k, j) ∈ fmT) (h9 : fk 10 k = 0) (kk : ∀ h', FR h0 h' → RM h' (sG τ j v) → WP X M d L (pc + 3) ls st h' Q) : WP X M d L pc ls (.int v :: .ref 25 :: st) h Q :=
  w_pi q.1 hd hf h9 rfl (by decide) (kk _ (f.f ⟨(fm_in hm).2.2.1, (fm_in hm).2.2.2.1⟩) (q.fld hm))
theorem y_putz (f : FR h0 h) (q : RM h τ) (hd : decode M.2.1 pc = .ok (.putfield idx, 3)) (hf : FL M.1 idx 10 k .boolean false) (hv : v = 0 ∨ v = 1) (hm : (k, j) ∈ fmT) (h9 : fk 10 k = 0) (kk : ∀ h', FR h0 h' → RM h' (sG τ j v) → WP X M d L (pc + 3) ls st h' Q) : WP X M d L pc ls (.int v :: .ref 25 :: st) h Q :=
  w_pz q.1 hd hf hv h9 rfl (by decide) (kk _ (f.f ⟨(fm_in hm).2.2.1, (fm_in hm).2.2.2.1⟩) (q.fld hm))
theorem g_get (q : RM h τ) (hd : decode M.2.1 pc = .ok (.iaload, 1)) (hi : i.toNatClampNeg = k) (hin : vp_in i 8) (kk : WP X M d L (pc + 1) ls (.int (τ.1 k) :: st) h Q) : WP X M d L pc ls (.int i :: .ref 27 :: st) h Q :=
  w_iaload hd rfl (q.1.lt (by decide)) hin (by rw [hi, q.2.2.2.2.1 k (by rw [← hi]; exact Nat.not_le.mp (fun z => hin (Or.inr z)))]; exact kk)
theorem g_put (f : FR h0 h) (q : RM h τ) (hd : decode M.2.1 pc = .ok (.iastore, 1)) (hi : i.toNatClampNeg = k) (hin : vp_in i 8) (kk : ∀ h', FR h0 h' → RM h' (sG τ k v) → WP X M d L (pc + 1) ls st h' Q) : WP X M d L pc ls (.int v :: .int i :: .ref 27 :: st) h Q :=
  w_iastore hd rfl (q.1.lt (by decide)) hin (by rw [hi]; exact kk _ (f.a (by decide)) (q.reg (by rw [← hi]; exact Nat.not_le.mp (fun z => hin (Or.inr z)))))
theorem e_get (q : RM h τ) (hd : decode M.2.1 pc = .ok (.iaload, 1)) (hin : vp_in i 65536) (kk : WP X M d L (pc + 1) ls (.int (τ.2.1 i.toNatClampNeg) :: st) h Q) : WP X M d L pc ls (.int i :: .ref 26 :: st) h Q :=
  w_iaload hd rfl (q.1.lt (by decide)) hin (by rw [q.2.1 _ (Nat.not_le.mp (fun z => hin (Or.inr z)))]; exact kk)
theorem e_put (f : FR h0 h) (q : RM h τ) (hd : decode M.2.1 pc = .ok (.iastore, 1)) (hin : vp_in i 65536) (kk : ∀ h', FR h0 h' → RM h' (sM τ i.toNatClampNeg v) → WP X M d L (pc + 1) ls st h' Q) : WP X M d L pc ls (.int v :: .int i :: .ref 26 :: st) h Q :=
  w_iastore hd rfl (q.1.lt (by decide)) hin (kk _ (f.a (by decide)) q.mem)
end MM9
theorem in16 (x : Int32) : vp_in (x &&& 65535) 65536 := pk_andIn x (m := 65535) 16 (by decide) (by decide)
theorem in3 (x : Int32) : vp_in (x &&& 7) 8 := pk_andIn x (m := 7) 3 (by decide) (by decide)
theorem km_w {h : PH} {τ : MS} (q : RM h τ) : hI h 25 11 ≤ 0 ↔ τ.2.2.1 = [] := by
  rw [q.2.2.1.1, nI_le0 (by have := q.2.2.1.2.1; omega)]
  exact List.length_eq_zero_iff
theorem km_z {h : PH} {τ : MS} (q : RM h τ) : hI h 25 11 = 0 ↔ τ.2.2.1 = [] := by
  rw [q.2.2.1.1, ← nI_0, nI_eq (by have := q.2.2.1.2.1; omega) (by decide)]
  exact List.length_eq_zero_iff
