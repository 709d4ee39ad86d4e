/-! CALL SITES: what a site needs of the tables in one fact; rows by how many a method takes; what stands of the heap for good -/
section SR
variable {X : Nat × (Nat → Int32)} {M M2 : MR} {d L pc idx d2 L2 ci a : Nat} {ls : List (Option Value)} {st : List Value} {h : PH} {Q : Option Value → PH → Prop}
theorem w_v {n : Nat} {As : List Value} (hd : decode M.2.1 pc = .ok (.invokevirtual idx, 3)) (hs9 : SV M.1 idx M2 n ci) (hk : kd a = ci) (ha : a < hn h) (hn9 : As.length = n) (hc9 : ∀ v ∈ As, v.category = 1) (hle : As.length + 1 ≤ M2.2.2.1) (hrs : (st.map fun v => v.category).sum ≤ 8) (hd2 : d2 + 1 ≤ d) (hL2 : 8 + (M2.2.2.1 + 11) + L2 ≤ L)
    (kk : WP X M2 d2 L2 0 (en M2.2.2.1 (.ref a :: As)) [] h (fun r h1 => rok M2 r ∧ WP X M d L (pc + 3) ls (r.toList ++ st) h1 Q)) : WP X M d L pc ls (As.reverse ++ .ref a :: st) h Q := by
  obtain ⟨q1, q2, q3, q4, ⟨T, N, q5⟩, q6⟩ := hs9
  subst hk
  exact w_callV (T2 := T) (N2 := N) (As := As) hd q1 q2 q3 q4 q1.2.2.2.2 q5 q6 ha rfl hn9 hc9 hle hrs hd2 hL2 kk
theorem w_v0 (hd : decode M.2.1 pc = .ok (.invokevirtual idx, 3)) (hs9 : SV M.1 idx M2 0 ci) (hk : kd a = ci) (ha : a < hn h) (hle : 1 ≤ M2.2.2.1) (hrs : (st.map fun v => v.category).sum ≤ 8) (hd2 : d2 + 1 ≤ d) (hL2 : 8 + (M2.2.2.1 + 11) + L2 ≤ L)
    (kk : WP X M2 d2 L2 0 (en M2.2.2.1 [.ref a]) [] h (fun r h1 => rok M2 r ∧ WP X M d L (pc + 3) ls (r.toList ++ st) h1 Q)) : WP X M d L pc ls (.ref a :: st) h Q :=
  w_v (As := []) hd hs9 hk ha rfl (fun _ h => by cases h) hle hrs hd2 hL2 kk
theorem w_v1 {v1 : Value} (hd : decode M.2.1 pc = .ok (.invokevirtual idx, 3)) (hs9 : SV M.1 idx M2 1 ci) (hk : kd a = ci) (ha : a < hn h) (c1 : v1.category = 1) (hle : 2 ≤ M2.2.2.1) (hrs : (st.map fun v => v.category).sum ≤ 8) (hd2 : d2 + 1 ≤ d) (hL2 : 8 + (M2.2.2.1 + 11) + L2 ≤ L)
    (kk : WP X M2 d2 L2 0 (en M2.2.2.1 [.ref a, v1]) [] h (fun r h1 => rok M2 r ∧ WP X M d L (pc + 3) ls (r.toList ++ st) h1 Q)) : WP X M d L pc ls (v1 :: .ref a :: st) h Q :=
  w_v (As := [v1]) hd hs9 hk ha rfl (by simpa using c1) hle hrs hd2 hL2 kk
theorem w_v2 {v1 v2 : Value} (hd : decode M.2.1 pc = .ok (.invokevirtual idx, 3)) (hs9 : SV M.1 idx M2 2 ci) (hk : kd a = ci) (ha : a < hn h) (c1 : v1.category = 1) (c2 : v2.category = 1) (hle : 3 ≤ M2.2.2.1) (hrs : (st.map fun v => v.category).sum ≤ 8) (hd2 : d2 + 1 ≤ d) (hL2 : 8 + (M2.2.2.1 + 11) + L2 ≤ L)
    (kk : WP X M2 d2 L2 0 (en M2.2.2.1 [.ref a, v1, v2]) [] h (fun r h1 => rok M2 r ∧ WP X M d L (pc + 3) ls (r.toList ++ st) h1 Q)) : WP X M d L pc ls (v2 :: v1 :: .ref a :: st) h Q :=
  w_v (As := [v1, v2]) hd hs9 hk ha rfl (by simp [c1, c2]) hle hrs hd2 hL2 kk
theorem w_v3 {v1 v2 v3 : Value} (hd : decode M.2.1 pc = .ok (.invokevirtual idx, 3)) (hs9 : SV M.1 idx M2 3 ci) (hk : kd a = ci) (ha : a < hn h) (c1 : v1.category = 1) (c2 : v2.category = 1) (c3 : v3.category = 1) (hle : 4 ≤ M2.2.2.1) (hrs : (st.map fun v => v.category).sum ≤ 8) (hd2 : d2 + 1 ≤ d) (hL2 : 8 + (M2.2.2.1 + 11) + L2 ≤ L)
    (kk : WP X M2 d2 L2 0 (en M2.2.2.1 [.ref a, v1, v2, v3]) [] h (fun r h1 => rok M2 r ∧ WP X M d L (pc + 3) ls (r.toList ++ st) h1 Q)) : WP X M d L pc ls (v3 :: v2 :: v1 :: .ref a :: st) h Q :=
  w_v (As := [v1, v2, v3]) hd hs9 hk ha rfl (by simp [c1, c2, c3]) hle hrs hd2 hL2 kk
theorem w_v5 {v1 v2 v3 v4 v5 : Value} (hd : decode M.2.1 pc = .ok (.invokevirtual idx, 3)) (hs9 : SV M.1 idx M2 5 ci) (hk : kd a = ci) (ha : a < hn h) (c1 : v1.category = 1) (c2 : v2.category = 1) (c3 : v3.category = 1) (c4 : v4.category = 1) (c5 : v5.category = 1) (hle : 6 ≤ M2.2.2.1) (hrs : (st.map fun v => v.category).sum ≤ 8) (hd2 : d2 + 1 ≤ d) (hL2 : 8 + (M2.2.2.1 + 11) + L2 ≤ L)
    (kk : WP X M2 d2 L2 0 (en M2.2.2.1 [.ref a, v1, v2, v3, v4, v5]) [] h (fun r h1 => rok M2 r ∧ WP X M d L (pc + 3) ls (r.toList ++ st) h1 Q)) : WP X M d L pc ls (v5 :: v4 :: v3 :: v2 :: v1 :: .ref a :: st) h Q :=
  w_v (As := [v1, v2, v3, v4, v5]) hd hs9 hk ha rfl (by simp [c1, c2, c3, c4, c5]) hle hrs hd2 hL2 kk
theorem w_s1 {v1 : Value} (hd : decode M.2.1 pc = .ok (.invokestatic idx, 3)) (hs9 : SS M.1 idx M2 1) (c1 : v1.category = 1) (hle : 1 ≤ M2.2.2.1) (hrs : (st.map fun v => v.category).sum ≤ 8) (hd2 : d2 + 1 ≤ d) (hL2 : 8 + (M2.2.2.1 + 11) + L2 ≤ L)
    (kk : WP X M2 d2 L2 0 (en M2.2.2.1 [v1]) [] h (fun r h1 => rok M2 r ∧ WP X M d L (pc + 3) ls (r.toList ++ st) h1 Q)) : WP X M d L pc ls (v1 :: st) h Q :=
  w_callS (As := [v1]) hd hs9.1 hs9.2.1 hs9.2.2 hs9.1.2.2.2.2 rfl rfl (by simpa using c1) hle hrs hd2 hL2 kk
theorem w_s2 {v1 v2 : Value} (hd : decode M.2.1 pc = .ok (.invokestatic idx, 3)) (hs9 : SS M.1 idx M2 2) (c1 : v1.category = 1) (c2 : v2.category = 1) (hle : 2 ≤ M2.2.2.1) (hrs : (st.map fun v => v.category).sum ≤ 8) (hd2 : d2 + 1 ≤ d) (hL2 : 8 + (M2.2.2.1 + 11) + L2 ≤ L)
    (kk : WP X M2 d2 L2 0 (en M2.2.2.1 [v1, v2]) [] h (fun r h1 => rok M2 r ∧ WP X M d L (pc + 3) ls (r.toList ++ st) h1 Q)) : WP X M d L pc ls (v2 :: v1 :: st) h Q :=
  w_callS (As := [v1, v2]) hd hs9.1 hs9.2.1 hs9.2.2 hs9.1.2.2.2.2 rfl rfl (by simp [c1, c2]) hle hrs hd2 hL2 kk
theorem w_x0 (hd : decode M.2.1 pc = .ok (.invokespecial idx, 3)) (hs9 : SX M.1 idx M2 0) (hle : 1 ≤ M2.2.2.1) (hrs : (st.map fun v => v.category).sum ≤ 8) (hd2 : d2 + 1 ≤ d) (hL2 : 8 + (M2.2.2.1 + 11) + L2 ≤ L)
    (kk : WP X M2 d2 L2 0 (en M2.2.2.1 [.ref a]) [] h (fun r h1 => rok M2 r ∧ WP X M d L (pc + 3) ls (r.toList ++ st) h1 Q)) : WP X M d L pc ls (.ref a :: st) h Q :=
  w_callI (As := []) hd hs9.1 hs9.2.1 hs9.2.2.1 hs9.1.2.2.2.2 hs9.2.2.2.1 hs9.2.2.2.2 rfl rfl (fun _ h => by cases h) hle hrs hd2 hL2 kk
theorem w_x1 {v1 : Value} (hd : decode M.2.1 pc = .ok (.invokespecial idx, 3)) (hs9 : SX M.1 idx M2 1) (c1 : v1.category = 1) (hle : 2 ≤ M2.2.2.1) (hrs : (st.map fun v => v.category).sum ≤ 8) (hd2 : d2 + 1 ≤ d) (hL2 : 8 + (M2.2.2.1 + 11) + L2 ≤ L)
    (kk : WP X M2 d2 L2 0 (en M2.2.2.1 [.ref a, v1]) [] h (fun r h1 => rok M2 r ∧ WP X M d L (pc + 3) ls (r.toList ++ st) h1 Q)) : WP X M d L pc ls (v1 :: .ref a :: st) h Q :=
  w_callI (As := [v1]) hd hs9.1 hs9.2.1 hs9.2.2.1 hs9.1.2.2.2.2 hs9.2.2.2.1 hs9.2.2.2.2 rfl rfl (by simpa using c1) hle hrs hd2 hL2 kk
end SR
/-- the references that never change once all is made: (cell, field, cell) -/
def stR : List (Nat × Nat × Nat) := [(0, 0, 1), (0, 1, 3), (0, 2, 13), (0, 3, 22), (1, 0, 2), (3, 0, 1), (3, 1, 12), (3, 2, 4), (3, 3, 5), (6, 0, 7), (6, 1, 8), (9, 0, 10), (9, 1, 11), (12, 0, 1), (13, 0, 14), (13, 1, 15), (13, 2, 16), (13, 3, 18), (13, 4, 20), (16, 0, 17), (18, 0, 19), (20, 0, 21), (22, 0, 23), (23, 0, 24), (25, 1, 26), (25, 2, 27), (25, 10, 28), (25, 12, 29), (25, 20, 30), (25, 22, 31), (25, 26, 32), (25, 30, 33), (25, 33, 34), (25, 34, 35), (25, 35, 36), (25, 37, 37), (25, 45, 38)]
def St (h : PH) : Prop := 40 ≤ hn h ∧ hn h < 1000000 ∧ ∀ q ∈ stR, hR h q.1 q.2.1 = some q.2.2
section SG
variable {X : Nat × (Nat → Int32)} {M : MR} {d L pc idx ci k a b : Nat} {ty : FieldType} {f : Bool} {ls : List (Option Value)} {st : List Value} {h : PH} {Q : Option Value → PH → Prop}
theorem St.lt (S : St h) (ha : a < 40) : a < hn h := Nat.lt_of_lt_of_le ha S.1
/-- getfield of what never changes; of an int; of a long; a put of an int -/
theorem w_gs (S : St h) (hd : decode M.2.1 pc = .ok (.getfield idx, 3)) (hf : FL M.1 idx ci k ty f) (hm : (a, k, b) ∈ stR) (h0 : fk ci k = 2) (hk : kd a = ci) (ha : a < 40) (kk : WP X M d L (pc + 3) ls (.ref b :: st) h Q) : WP X M d L pc ls (.ref a :: st) h Q :=
  w_getR hd hf h0 hk (S.lt ha) (S.2.2 (a, k, b) hm) kk
theorem w_gi (S : St h) (hd : decode M.2.1 pc = .ok (.getfield idx, 3)) (hf : FL M.1 idx ci k ty f) (h0 : fk ci k = 0) (hk : kd a = ci) (ha : a < 40) (kk : WP X M d L (pc + 3) ls (.int (hI h a k) :: st) h Q) : WP X M d L pc ls (.ref a :: st) h Q :=
  w_getI hd hf h0 hk (S.lt ha) kk
theorem w_gl (S : St h) (hd : decode M.2.1 pc = .ok (.getfield idx, 3)) (hf : FL M.1 idx ci k ty f) (h0 : fk ci k = 1) (hk : kd a = ci) (ha : a < 40) (kk : WP X M d L (pc + 3) ls (.long (hL h a k) :: st) h Q) : WP X M d L pc ls (.ref a :: st) h Q :=
  w_getL hd hf h0 hk (S.lt ha) kk
theorem w_pi {v : Int32} (S : St h) (hd : decode M.2.1 pc = .ok (.putfield idx, 3)) (hf : FL M.1 idx ci k .int false) (h0 : fk ci k = 0) (hk : kd a = ci) (ha : a < 40) (kk : WP X M d L (pc + 3) ls st (sI h a k v) Q) : WP X M d L pc ls (.int v :: .ref a :: st) h Q :=
  w_putI hd hf h0 hk (S.lt ha) ⟨rfl, rfl⟩ kk
theorem w_pz {v : Int32} (S : St h) (hd : decode M.2.1 pc = .ok (.putfield idx, 3)) (hf : FL M.1 idx ci k .boolean false) (hv : v = 0 ∨ v = 1) (h0 : fk ci k = 0) (hk : kd a = ci) (ha : a < 40) (kk : WP X M d L (pc + 3) ls st (sI h a k v) Q) : WP X M d L pc ls (.int v :: .ref a :: st) h Q :=
  w_putI hd hf h0 hk (S.lt ha) (by rcases hv with rfl | rfl <;> exact ⟨by decide, by decide⟩) kk
theorem w_pl {v : Int64} (S : St h) (hd : decode M.2.1 pc = .ok (.putfield idx, 3)) (hf : FL M.1 idx ci k .long false) (h0 : fk ci k = 1) (hk : kd a = ci) (ha : a < 40) (kk : WP X M d L (pc + 3) ls st (sL h a k v) Q) : WP X M d L pc ls (.long v :: .ref a :: st) h Q :=
  w_putL hd hf h0 hk (S.lt ha) kk
/-- how a call's answer comes back -/
theorem k_i {M2 : MR} {v : Int32} {ty : FieldType} (e : M2.2.2.2.1 = some ty) (kk : WP X M d L pc ls (.int v :: st) h Q) : rok M2 (some (.int v)) ∧ WP X M d L pc ls ((some (Value.int v)).toList ++ st) h Q := ⟨Or.inr (Or.inl ⟨v, ty, rfl, e⟩), kk⟩
theorem k_v {M2 : MR} (e : M2.2.2.2.1 = none) (kk : WP X M d L pc ls st h Q) : rok M2 none ∧ WP X M d L pc ls ((none : Option Value).toList ++ st) h Q := ⟨Or.inl ⟨rfl, e⟩, kk⟩
end SG
