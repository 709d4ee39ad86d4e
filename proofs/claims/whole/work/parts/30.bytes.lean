/-! ROWS OF BYTES: the class's TAPE and line, the reference's -/
def BY (c a cap : Nat) (h : PH) (T : List Int32) : Prop := hI h c 1 = nI T.length ∧ T.length ≤ cap ∧ ∀ (i : Nat) (v : Int32), T[i]? = some v → hI h a i &&& 255 = v
/-- the byte at a place, -1 where there is none -/
def bA (T : List Int32) (i : Int32) : Int32 := if i < 0 then -1 else (T[i.toNatClampNeg]?).getD (-1)
def addB (cap : Nat) (T : List Int32) (b : Int32) : List Int32 := if T.length < cap then T ++ [b &&& 255] else T
theorem app_get {T : List Int32} {b v : Int32} {i : Nat} (h : (T ++ [b])[i]? = some v) : (i < T.length ∧ T[i]? = some v) ∨ (i = T.length ∧ b = v) := by
  by_cases c : i < T.length
  · rw [List.getElem?_append_left c] at h; exact Or.inl ⟨c, h⟩
  · rw [List.getElem?_append_right (by omega)] at h
    have e2 : i - T.length = 0 := by
      cases e3 : i - T.length with
      | zero => rfl
      | succ n => rw [e3] at h; simp at h
    rw [e2] at h
    exact Or.inr ⟨by omega, by simpa using h⟩
theorem BY.add {c a cap j : Nat} {h : PH} {T : List Int32} {x b w : Int32} (q : BY c a cap h T) (hca : a ≠ c) (hl : T.length < cap) (hx : x &&& 255 = b) (hj : j = T.length) (hw : w = nI (T.length + 1)) : BY c a cap (sI (sI h a j x) c 1 w) (T ++ [b]) := by
  refine ⟨?_, ?_, fun i v hv => ?_⟩
  · rw [rI_s, hw, List.length_append]; rfl
  · rw [List.length_append]; show _ + 1 ≤ cap; omega
  · rw [rI_a hca]
    rcases app_get hv with ⟨c1, h1⟩ | ⟨c1, h1⟩
    · rw [rI_k (by omega)]; exact q.2.2 i v h1
    · rw [c1, ← hj, rI_s, hx]; exact h1
theorem BY.cut {c a cap n : Nat} {h : PH} {T : List Int32} {w : Int32} (q : BY c a cap h T) (hca : a ≠ c) (hn : n ≤ T.length) (hw : w = nI n) : BY c a cap (sI h c 1 w) (T.take n) := by
  refine ⟨?_, ?_, fun i v hv => ?_⟩
  · rw [rI_s, hw, List.length_take, Nat.min_eq_left hn]
  · rw [List.length_take]; have := q.2.1; omega
  · rw [rI_a hca]
    rw [List.getElem?_take] at hv
    split at hv
    · exact q.2.2 i v hv
    · cases hv
theorem BY.fr {c a cap : Nat} {h h' : PH} {T : List Int32} {l : List Nat} (q : BY c a cap h T) (f : Sm l h h') (hc : c ∉ l) (ha : a ∉ l) : BY c a cap h' T := by
  unfold BY; rw [f.I hc, f.I ha]; exact q
theorem bA_n {T : List Int32} {i : Nat} (h : i < 2 ^ 31) : bA T (nI i) = (T[i]?).getD (-1) := by
  unfold bA; rw [if_neg (nI_pos h), nI_clamp h]
set_option maxRecDepth 20000 in
set_option maxHeartbeats 4000000 in
/-- hasRoom(more) -/
theorem T_room1 {X : Nat × (Nat → Int32)} {h : PH} {T : List Int32} {Q : Option Value → PH → Prop} {m : Nat} (hm : m ≤ 4000) (S : St h) (q : BY 1 2 4000 h T) (k : Q (some (.int (if T.length + m ≤ 4000 then 1 else 0))) h) : WP X mX1_hasRoom 0 0 0 (en 2 [.ref 1, .int (nI m)]) [] h Q := by
  refine w_aload_n dX1_hasRoom_0 rfl rfl ?_
  refine w_gi S dX1_hasRoom_1 fX1_15 rfl rfl (by decide) ?_
  refine w_iload_n dX1_hasRoom_4 rfl rfl ?_
  refine w_iadd dX1_hasRoom_5 ?_
  refine w_aload_n dX1_hasRoom_6 rfl rfl ?_
  refine w_gs (b := 2) S dX1_hasRoom_7 fX1_9 (by decide) rfl rfl (by decide) ?_
  refine w_alen dX1_hasRoom_10 (by decide) (S.lt (by decide)) rfl ?_
  refine w_icmp_gt (tgt := 18) dX1_hasRoom_11 (by decide) (fun c_11 => ?_) (fun c_11 => ?_)
  · rw [show (Int32.ofNat (ln 2)) = nI 4000 from rfl, q.1, nI_add, nI_ltI (by decide) (by have := q.2.1; omega)] at c_11
    refine w_iconst dX1_hasRoom_18 (v := 0) (by decide) ?_
    refine w_iret dX1_hasRoom_19 (fun _ e => by cases e; decide) ?_
    rw [if_neg (by omega)] at k; exact k
  · rw [show (Int32.ofNat (ln 2)) = nI 4000 from rfl, q.1, nI_add, nI_ltI (by decide) (by have := q.2.1; omega)] at c_11
    refine w_iconst dX1_hasRoom_14 (v := 1) (by decide) ?_
    refine w_goto (tgt := 19) dX1_hasRoom_15 (by decide) ?_
    refine w_iret dX1_hasRoom_19 (fun _ e => by cases e; decide) ?_
    rw [if_pos (by omega)] at k; exact k

set_option maxRecDepth 20000 in
set_option maxHeartbeats 4000000 in
/-- add(b) -/
theorem T_add1 {X : Nat × (Nat → Int32)} {h0 h : PH} {T : List Int32} {Q : Option Value → PH → Prop} {b : Int32} (S : St h) (f : Sm [1, 2] h0 h) (q : BY 1 2 4000 h T) (k : ∀ h', Sm [1, 2] h0 h' → BY 1 2 4000 h' (addB 4000 T b) → Q none h') : WP X mX1_add 0 0 0 (en 2 [.ref 1, .int b]) [] h Q := by
  refine w_aload_n dX1_add_0 rfl rfl ?_
  refine w_gi S dX1_add_1 fX1_15 rfl rfl (by decide) ?_
  refine w_aload_n dX1_add_4 rfl rfl ?_
  refine w_gs (b := 2) S dX1_add_5 fX1_9 (by decide) rfl rfl (by decide) ?_
  refine w_alen dX1_add_8 (by decide) (S.lt (by decide)) rfl ?_
  refine w_icmp_ge (tgt := 33) dX1_add_9 (by decide) (fun c_9 => ?_) (fun c_9 => ?_)
  · have hl := q.2.1
    rw [show (Int32.ofNat (ln 2)) = nI 4000 from rfl, q.1, nI_leI (by decide) (by omega)] at c_9
    refine w_vret dX1_add_33 ?_
    rw [addB, if_neg (by omega)] at k; exact k _ f q
  · have hl := q.2.1
    rw [show (Int32.ofNat (ln 2)) = nI 4000 from rfl, q.1, nI_leI (by decide) (by omega)] at c_9
    refine w_aload_n dX1_add_12 rfl rfl ?_
    refine w_gs (b := 2) S dX1_add_13 fX1_9 (by decide) rfl rfl (by decide) ?_
    refine w_aload_n dX1_add_16 rfl rfl ?_
    refine w_gi S dX1_add_17 fX1_15 rfl rfl (by decide) ?_
    refine w_iload_n dX1_add_20 rfl rfl ?_
    refine w_i2b dX1_add_21 ?_
    refine w_bastore dX1_add_22 rfl (S.lt (by decide)) (by rw [q.1]; exact vp_in_nI (show T.length < 4000 by omega) (by decide)) ?_
    refine w_aload_n dX1_add_23 rfl rfl ?_
    refine w_dup dX1_add_24 rfl ?_
    refine w_gi S.i dX1_add_25 fX1_15 rfl rfl (by decide) ?_
    refine w_iconst dX1_add_28 (v := 1) (by decide) ?_
    refine w_iadd dX1_add_29 ?_
    refine w_pi S.i dX1_add_30 fX1_15 rfl rfl (by decide) ?_
    refine w_vret dX1_add_33 ?_
    rw [addB, if_pos (by omega)] at k
    refine k _ ((f.i (by decide)).i (by decide)) (BY.add q (by decide) (by omega) (nar_b b) (by rw [q.1]; exact nI_clamp (by omega)) ?_)
    rw [rI_a (by decide), q.1, nI_1]

set_option maxRecDepth 20000 in
set_option maxHeartbeats 4000000 in
/-- cut(n) -/
theorem T_cut1 {X : Nat × (Nat → Int32)} {h0 h : PH} {T : List Int32} {Q : Option Value → PH → Prop} {m : Nat} (hm : m ≤ T.length) (S : St h) (f : Sm [1, 2] h0 h) (q : BY 1 2 4000 h T) (k : ∀ h', Sm [1, 2] h0 h' → BY 1 2 4000 h' (T.take m) → Q none h') : WP X mX1_cut 0 0 0 (en 2 [.ref 1, .int (nI m)]) [] h Q := by
  refine w_iload_n dX1_cut_0 rfl rfl ?_
  refine w_if_lt (tgt := 17) dX1_cut_1 (by decide) (fun c_1 => absurd c_1 (nI_pos (by have := q.2.1; omega))) (fun c_1 => ?_)
  refine w_iload_n dX1_cut_4 rfl rfl ?_
  refine w_aload_n dX1_cut_5 rfl rfl ?_
  refine w_gi S dX1_cut_6 fX1_15 rfl rfl (by decide) ?_
  refine w_icmp_gt (tgt := 17) dX1_cut_9 (by decide) (fun c_9 => absurd c_9 (by rw [q.1]; exact nI_nlt hm (by have := q.2.1; omega))) (fun c_9 => ?_)
  refine w_aload_n dX1_cut_12 rfl rfl ?_
  refine w_iload_n dX1_cut_13 rfl rfl ?_
  refine w_pi S dX1_cut_14 fX1_15 rfl rfl (by decide) ?_
  refine w_vret dX1_cut_17 ?_
  exact k _ (f.i (by decide)) (BY.cut q (by decide) hm rfl)

set_option maxRecDepth 20000 in
set_option maxHeartbeats 4000000 in
/-- byteAt(i) -/
theorem T_byte1 {X : Nat × (Nat → Int32)} {h : PH} {T : List Int32} {Q : Option Value → PH → Prop} {i : Int32} (S : St h) (q : BY 1 2 4000 h T) (k : Q (some (.int (bA T i))) h) : WP X mX1_byteAt 0 0 0 (en 2 [.ref 1, .int i]) [] h Q := by
  refine w_iload_n dX1_byteAt_0 rfl rfl ?_
  refine w_if_lt (tgt := 25) dX1_byteAt_1 (by decide) (fun c_1 => ?_) (fun c_1 => ?_)
  · refine w_iconst dX1_byteAt_25 (v := (-1)) (by decide) ?_
    refine w_iret dX1_byteAt_26 (fun _ e => by cases e; rfl) ?_
    rw [bA, if_pos c_1] at k; exact k
  · refine w_iload_n dX1_byteAt_4 rfl rfl ?_
    refine w_aload_n dX1_byteAt_5 rfl rfl ?_
    refine w_gi S dX1_byteAt_6 fX1_15 rfl rfl (by decide) ?_
    refine w_icmp_ge (tgt := 25) dX1_byteAt_9 (by decide) (fun c_9 => ?_) (fun c_9 => ?_)
    · obtain ⟨j, hj, rfl⟩ := nI_of c_1
      have hl := q.2.1
      rw [q.1, nI_leI (by omega) (by omega)] at c_9
      refine w_iconst dX1_byteAt_25 (v := (-1)) (by decide) ?_
      refine w_iret dX1_byteAt_26 (fun _ e => by cases e; rfl) ?_
      rw [bA, if_neg c_1, nI_clamp (by omega), List.getElem?_eq_none (by omega)] at k; exact k
    · obtain ⟨j, hj, rfl⟩ := nI_of c_1
      have hl := q.2.1
      rw [q.1, nI_leI (by omega) (by omega)] at c_9
      refine w_aload_n dX1_byteAt_12 rfl rfl ?_
      refine w_gs (b := 2) S dX1_byteAt_13 fX1_9 (by decide) rfl rfl (by decide) ?_
      refine w_iload_n dX1_byteAt_16 rfl rfl ?_
      refine w_baload dX1_byteAt_17 rfl (S.lt (by decide)) (vp_in_nI (show j < 4000 by omega) (by decide)) ?_
      refine w_sipush dX1_byteAt_18 (v := 255) (by decide) ?_
      refine w_iand dX1_byteAt_21 ?_
      refine w_goto (tgt := 26) dX1_byteAt_22 (by decide) ?_
      refine w_iret dX1_byteAt_26 (fun _ e => by cases e; rfl) ?_
      rw [bA, if_neg c_1, nI_clamp (by omega), List.getElem?_eq_getElem (by omega)] at k
      rw [nI_clamp (by omega), q.2.2 j _ (List.getElem?_eq_getElem (by omega))]; exact k

set_option maxRecDepth 20000 in
set_option maxHeartbeats 4000000 in
/-- hasRoom(more) -/
theorem T_room2 {X : Nat × (Nat → Int32)} {h : PH} {T : List Int32} {Q : Option Value → PH → Prop} {m : Nat} (hm : m ≤ 4000) (S : St h) (q : BY 23 24 32 h T) (k : Q (some (.int (if T.length + m ≤ 32 then 1 else 0))) h) : WP X mX1_hasRoom 0 0 0 (en 2 [.ref 23, .int (nI m)]) [] h Q := by
  refine w_aload_n dX1_hasRoom_0 rfl rfl ?_
  refine w_gi S dX1_hasRoom_1 fX1_15 rfl rfl (by decide) ?_
  refine w_iload_n dX1_hasRoom_4 rfl rfl ?_
  refine w_iadd dX1_hasRoom_5 ?_
  refine w_aload_n dX1_hasRoom_6 rfl rfl ?_
  refine w_gs (b := 24) S dX1_hasRoom_7 fX1_9 (by decide) rfl rfl (by decide) ?_
  refine w_alen dX1_hasRoom_10 (by decide) (S.lt (by decide)) rfl ?_
  refine w_icmp_gt (tgt := 18) dX1_hasRoom_11 (by decide) (fun c_11 => ?_) (fun c_11 => ?_)
  · rw [show (Int32.ofNat (ln 24)) = nI 32 from rfl, q.1, nI_add, nI_ltI (by decide) (by have := q.2.1; omega)] at c_11
    refine w_iconst dX1_hasRoom_18 (v := 0) (by decide) ?_
    refine w_iret dX1_hasRoom_19 (fun _ e => by cases e; decide) ?_
    rw [if_neg (by omega)] at k; exact k
  · rw [show (Int32.ofNat (ln 24)) = nI 32 from rfl, q.1, nI_add, nI_ltI (by decide) (by have := q.2.1; omega)] at c_11
    refine w_iconst dX1_hasRoom_14 (v := 1) (by decide) ?_
    refine w_goto (tgt := 19) dX1_hasRoom_15 (by decide) ?_
    refine w_iret dX1_hasRoom_19 (fun _ e => by cases e; decide) ?_
    rw [if_pos (by omega)] at k; exact k

set_option maxRecDepth 20000 in
set_option maxHeartbeats 4000000 in
/-- add(b) -/
theorem T_add2 {X : Nat × (Nat → Int32)} {h0 h : PH} {T : List Int32} {Q : Option Value → PH → Prop} {b : Int32} (S : St h) (f : Sm [23, 24] h0 h) (q : BY 23 24 32 h T) (k : ∀ h', Sm [23, 24] h0 h' → BY 23 24 32 h' (addB 32 T b) → Q none h') : WP X mX1_add 0 0 0 (en 2 [.ref 23, .int b]) [] h Q := by
  refine w_aload_n dX1_add_0 rfl rfl ?_
  refine w_gi S dX1_add_1 fX1_15 rfl rfl (by decide) ?_
  refine w_aload_n dX1_add_4 rfl rfl ?_
  refine w_gs (b := 24) S dX1_add_5 fX1_9 (by decide) rfl rfl (by decide) ?_
  refine w_alen dX1_add_8 (by decide) (S.lt (by decide)) rfl ?_
  refine w_icmp_ge (tgt := 33) dX1_add_9 (by decide) (fun c_9 => ?_) (fun c_9 => ?_)
  · have hl := q.2.1
    rw [show (Int32.ofNat (ln 24)) = nI 32 from rfl, q.1, nI_leI (by decide) (by omega)] at c_9
    refine w_vret dX1_add_33 ?_
    rw [addB, if_neg (by omega)] at k; exact k _ f q
  · have hl := q.2.1
    rw [show (Int32.ofNat (ln 24)) = nI 32 from rfl, q.1, nI_leI (by decide) (by omega)] at c_9
    refine w_aload_n dX1_add_12 rfl rfl ?_
    refine w_gs (b := 24) S dX1_add_13 fX1_9 (by decide) rfl rfl (by decide) ?_
    refine w_aload_n dX1_add_16 rfl rfl ?_
    refine w_gi S dX1_add_17 fX1_15 rfl rfl (by decide) ?_
    refine w_iload_n dX1_add_20 rfl rfl ?_
    refine w_i2b dX1_add_21 ?_
    refine w_bastore dX1_add_22 rfl (S.lt (by decide)) (by rw [q.1]; exact vp_in_nI (show T.length < 32 by omega) (by decide)) ?_
    refine w_aload_n dX1_add_23 rfl rfl ?_
    refine w_dup dX1_add_24 rfl ?_
    refine w_gi S.i dX1_add_25 fX1_15 rfl rfl (by decide) ?_
    refine w_iconst dX1_add_28 (v := 1) (by decide) ?_
    refine w_iadd dX1_add_29 ?_
    refine w_pi S.i dX1_add_30 fX1_15 rfl rfl (by decide) ?_
    refine w_vret dX1_add_33 ?_
    rw [addB, if_pos (by omega)] at k
    refine k _ ((f.i (by decide)).i (by decide)) (BY.add q (by decide) (by omega) (nar_b b) (by rw [q.1]; exact nI_clamp (by omega)) ?_)
    rw [rI_a (by decide), q.1, nI_1]

set_option maxRecDepth 20000 in
set_option maxHeartbeats 4000000 in
/-- cut(n) -/
theorem T_cut2 {X : Nat × (Nat → Int32)} {h0 h : PH} {T : List Int32} {Q : Option Value → PH → Prop} {m : Nat} (hm : m ≤ T.length) (S : St h) (f : Sm [23, 24] h0 h) (q : BY 23 24 32 h T) (k : ∀ h', Sm [23, 24] h0 h' → BY 23 24 32 h' (T.take m) → Q none h') : WP X mX1_cut 0 0 0 (en 2 [.ref 23, .int (nI m)]) [] h Q := by
  refine w_iload_n dX1_cut_0 rfl rfl ?_
  refine w_if_lt (tgt := 17) dX1_cut_1 (by decide) (fun c_1 => absurd c_1 (nI_pos (by have := q.2.1; omega))) (fun c_1 => ?_)
  refine w_iload_n dX1_cut_4 rfl rfl ?_
  refine w_aload_n dX1_cut_5 rfl rfl ?_
  refine w_gi S dX1_cut_6 fX1_15 rfl rfl (by decide) ?_
  refine w_icmp_gt (tgt := 17) dX1_cut_9 (by decide) (fun c_9 => absurd c_9 (by rw [q.1]; exact nI_nlt hm (by have := q.2.1; omega))) (fun c_9 => ?_)
  refine w_aload_n dX1_cut_12 rfl rfl ?_
  refine w_iload_n dX1_cut_13 rfl rfl ?_
  refine w_pi S dX1_cut_14 fX1_15 rfl rfl (by decide) ?_
  refine w_vret dX1_cut_17 ?_
  exact k _ (f.i (by decide)) (BY.cut q (by decide) hm rfl)

set_option maxRecDepth 20000 in
set_option maxHeartbeats 4000000 in
/-- byteAt(i) -/
theorem T_byte2 {X : Nat × (Nat → Int32)} {h : PH} {T : List Int32} {Q : Option Value → PH → Prop} {i : Int32} (S : St h) (q : BY 23 24 32 h T) (k : Q (some (.int (bA T i))) h) : WP X mX1_byteAt 0 0 0 (en 2 [.ref 23, .int i]) [] h Q := by
  refine w_iload_n dX1_byteAt_0 rfl rfl ?_
  refine w_if_lt (tgt := 25) dX1_byteAt_1 (by decide) (fun c_1 => ?_) (fun c_1 => ?_)
  · refine w_iconst dX1_byteAt_25 (v := (-1)) (by decide) ?_
    refine w_iret dX1_byteAt_26 (fun _ e => by cases e; rfl) ?_
    rw [bA, if_pos c_1] at k; exact k
  · refine w_iload_n dX1_byteAt_4 rfl rfl ?_
    refine w_aload_n dX1_byteAt_5 rfl rfl ?_
    refine w_gi S dX1_byteAt_6 fX1_15 rfl rfl (by decide) ?_
    refine w_icmp_ge (tgt := 25) dX1_byteAt_9 (by decide) (fun c_9 => ?_) (fun c_9 => ?_)
    · obtain ⟨j, hj, rfl⟩ := nI_of c_1
      have hl := q.2.1
      rw [q.1, nI_leI (by omega) (by omega)] at c_9
      refine w_iconst dX1_byteAt_25 (v := (-1)) (by decide) ?_
      refine w_iret dX1_byteAt_26 (fun _ e => by cases e; rfl) ?_
      rw [bA, if_neg c_1, nI_clamp (by omega), List.getElem?_eq_none (by omega)] at k; exact k
    · obtain ⟨j, hj, rfl⟩ := nI_of c_1
      have hl := q.2.1
      rw [q.1, nI_leI (by omega) (by omega)] at c_9
      refine w_aload_n dX1_byteAt_12 rfl rfl ?_
      refine w_gs (b := 24) S dX1_byteAt_13 fX1_9 (by decide) rfl rfl (by decide) ?_
      refine w_iload_n dX1_byteAt_16 rfl rfl ?_
      refine w_baload dX1_byteAt_17 rfl (S.lt (by decide)) (vp_in_nI (show j < 32 by omega) (by decide)) ?_
      refine w_sipush dX1_byteAt_18 (v := 255) (by decide) ?_
      refine w_iand dX1_byteAt_21 ?_
      refine w_goto (tgt := 26) dX1_byteAt_22 (by decide) ?_
      refine w_iret dX1_byteAt_26 (fun _ e => by cases e; rfl) ?_
      rw [bA, if_neg c_1, nI_clamp (by omega), List.getElem?_eq_getElem (by omega)] at k
      rw [nI_clamp (by omega), q.2.2 j _ (List.getElem?_eq_getElem (by omega))]; exact k

def add4 (T : List Int32) (v : Int32) : List Int32 := addB 4000 (addB 4000 (addB 4000 (addB 4000 T (v.toUInt32 >>> (((24 : Int32)).toUInt32 &&& Int32.toUInt32 31)).toInt32) (v.toUInt32 >>> (((16 : Int32)).toUInt32 &&& Int32.toUInt32 31)).toInt32) (v.toUInt32 >>> (((8 : Int32)).toUInt32 &&& Int32.toUInt32 31)).toInt32) v
