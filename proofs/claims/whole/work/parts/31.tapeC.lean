/-! THE TAPE: feed, end, again, written, on both sides -/
def TC (h : PH) (T : List Int32) : Prop := St h ∧ BY 1 2 4000 h T
def LC (h : PH) (T : List Int32) : Prop := St h ∧ BY 23 24 32 h T
section TCS
variable {X : Nat × (Nat → Int32)} {h0 h : PH} {T : List Int32} {Q : Option Value → PH → Prop} {b : Int32} {m : Nat}
theorem T_addT (f : Sm [1, 2] h0 h) (q : TC h T) (k : ∀ h', Sm [1, 2] h0 h' → TC h' (addB 4000 T b) → Q none h') : WP X mX1_add 0 0 0 (en 2 [.ref 1, .int b]) [] h Q := T_add1 (h0 := h) q.1 Sm.rf q.2 (fun h' g r => k h' (f.tr g) ⟨g.st q.1, r⟩)
theorem T_cutT (hm : m ≤ T.length) (f : Sm [1, 2] h0 h) (q : TC h T) (k : ∀ h', Sm [1, 2] h0 h' → TC h' (T.take m) → Q none h') : WP X mX1_cut 0 0 0 (en 2 [.ref 1, .int (nI m)]) [] h Q := T_cut1 (h0 := h) hm q.1 Sm.rf q.2 (fun h' g r => k h' (f.tr g) ⟨g.st q.1, r⟩)
theorem T_addL (f : Sm [23, 24] h0 h) (q : LC h T) (k : ∀ h', Sm [23, 24] h0 h' → LC h' (addB 32 T b) → Q none h') : WP X mX1_add 0 0 0 (en 2 [.ref 23, .int b]) [] h Q := T_add2 (h0 := h) q.1 Sm.rf q.2 (fun h' g r => k h' (f.tr g) ⟨g.st q.1, r⟩)
theorem T_cutL (hm : m ≤ T.length) (f : Sm [23, 24] h0 h) (q : LC h T) (k : ∀ h', Sm [23, 24] h0 h' → LC h' (T.take m) → Q none h') : WP X mX1_cut 0 0 0 (en 2 [.ref 23, .int (nI m)]) [] h Q := T_cut2 (h0 := h) hm q.1 Sm.rf q.2 (fun h' g r => k h' (f.tr g) ⟨g.st q.1, r⟩)
end TCS
/-- the four bytes of an int -/
def by4 (v : Int32) : List Int32 := [v >>> ((24 : Int32) &&& 31) &&& 255, v >>> ((16 : Int32) &&& 31) &&& 255, v >>> ((8 : Int32) &&& 31) &&& 255, v &&& 255]
theorem ush_b (v : Int32) (s : Int32) (k : Nat) (hk : k ≤ 24) (hs : (s.toBitVec.smod 32).toNat = k) (hu : ((s.toUInt32 &&& Int32.toUInt32 31).toBitVec % 32).toNat = k) : (v.toUInt32 >>> (s.toUInt32 &&& Int32.toUInt32 31)).toInt32 &&& 255 = v >>> s &&& 255 := by
  rw [pk_and _ 8 (by decide), pk_and _ 8 (by decide)]
  congr 1
  rw [pk_ushr v s k hu]
  have h1 : (v >>> s).toBitVec = v.toBitVec.sshiftRight k := by
    rw [Int32.toBitVec_shiftRight]; show v.toBitVec.sshiftRight _ = _; rw [hs]
  rw [h1]
  apply Nat.eq_of_testBit_eq
  intro i
  rw [Nat.testBit_mod_two_pow, Nat.testBit_mod_two_pow, Nat.testBit_div_two_pow, BitVec.testBit_toNat, BitVec.testBit_toNat, BitVec.getLsbD_sshiftRight]
  by_cases hi : i < 8
  · have e4 : ¬ 32 ≤ i := by omega
    have e5 : k + i < 32 := by omega
    simp [hi, e4, e5, Nat.add_comm i k]
  · simp [hi]
theorem addB_lt {cap : Nat} {T : List Int32} {b : Int32} (h : T.length < cap) : addB cap T b = T ++ [b &&& 255] := if_pos h
theorem add4_eq {T : List Int32} {v : Int32} (h : T.length + 4 ≤ 4000) : add4 T v = T ++ by4 v := by
  unfold add4
  have l1 : ∀ x : Int32, (T ++ [x]).length < 4000 := fun x => by rw [List.length_append]; show _ + 1 < 4000; omega
  have l2 : ∀ x y : Int32, (T ++ [x] ++ [y]).length < 4000 := fun x y => by rw [List.length_append, List.length_append]; show _ + 1 + 1 < 4000; omega
  have l3 : ∀ x y z : Int32, (T ++ [x] ++ [y] ++ [z]).length < 4000 := fun x y z => by rw [List.length_append, List.length_append, List.length_append]; show _ + 1 + 1 + 1 < 4000; omega
  rw [addB_lt (T := T) (by omega), addB_lt (l1 _), addB_lt (l2 _ _), addB_lt (l3 _ _ _), ush_b v 24 24 (by decide) (by decide) (by decide), ush_b v 16 16 (by decide) (by decide) (by decide), ush_b v 8 8 (by decide) (by decide) (by decide)]
  unfold by4
  simp only [List.append_assoc, List.cons_append, List.nil_append]
  rfl
theorem by4_len (v : Int32) : (by4 v).length = 4 := rfl
def feS (T : List Int32) (a b c d e : Int32) : List Int32 := T ++ by4 a ++ by4 b ++ by4 c ++ by4 d ++ by4 e
set_option maxRecDepth 20000 in
set_option maxHeartbeats 4000000 in
/-- addFour(number) -/
theorem T_add4 {X : Nat × (Nat → Int32)} {h0 h : PH} {Q : Option Value → PH → Prop} {T : List Int32} {v : Int32} (f : Sm [1, 2] h0 h) (q : TC h T) (k : ∀ h', Sm [1, 2] h0 h' → TC h' (add4 T v) → Q (none) h') : WP X mX1_addFour 1 21 0 (en 2 [.ref 1, .int v]) [] h Q := by
  refine w_aload_n dX1_addFour_0 rfl rfl ?_
  refine w_iload_n dX1_addFour_1 rfl rfl ?_
  refine w_bipush dX1_addFour_2 (v := 24) (by decide) ?_
  refine w_iushr dX1_addFour_4 ?_
  refine w_v1 (d2 := 0) (L2 := 0) dX1_addFour_5 vX1_19 rfl (q.1.lt (by decide)) rfl (by decide) (Nat.le_of_ble_eq_true rfl) (by decide) (by decide) ?_
  refine T_addT f q (fun h1 f1 q1 => ?_)
  refine k_v rfl ?_
  refine w_aload_n dX1_addFour_8 rfl rfl ?_
  refine w_iload_n dX1_addFour_9 rfl rfl ?_
  refine w_bipush dX1_addFour_10 (v := 16) (by decide) ?_
  refine w_iushr dX1_addFour_12 ?_
  refine w_v1 (d2 := 0) (L2 := 0) dX1_addFour_13 vX1_19 rfl (q1.1.lt (by decide)) rfl (by decide) (Nat.le_of_ble_eq_true rfl) (by decide) (by decide) ?_
  refine T_addT f1 q1 (fun h2 f2 q2 => ?_)
  refine k_v rfl ?_
  refine w_aload_n dX1_addFour_16 rfl rfl ?_
  refine w_iload_n dX1_addFour_17 rfl rfl ?_
  refine w_bipush dX1_addFour_18 (v := 8) (by decide) ?_
  refine w_iushr dX1_addFour_20 ?_
  refine w_v1 (d2 := 0) (L2 := 0) dX1_addFour_21 vX1_19 rfl (q2.1.lt (by decide)) rfl (by decide) (Nat.le_of_ble_eq_true rfl) (by decide) (by decide) ?_
  refine T_addT f2 q2 (fun h3 f3 q3 => ?_)
  refine k_v rfl ?_
  refine w_aload_n dX1_addFour_24 rfl rfl ?_
  refine w_iload_n dX1_addFour_25 rfl rfl ?_
  refine w_v1 (d2 := 0) (L2 := 0) dX1_addFour_26 vX1_19 rfl (q3.1.lt (by decide)) rfl (by decide) (Nat.le_of_ble_eq_true rfl) (by decide) (by decide) ?_
  refine T_addT f3 q3 (fun h4 f4 q4 => ?_)
  refine k_v rfl ?_
  refine w_vret dX1_addFour_29 ?_
  exact k _ f4 q4

set_option maxRecDepth 20000 in
set_option maxHeartbeats 4000000 in
/-- feed(a, b, c, d, e) -/
theorem T_cfeed {X : Nat × (Nat → Int32)} {h0 h : PH} {Q : Option Value → PH → Prop} {T : List Int32} {a b c d e : Int32} (f : Sm [1, 2] h0 h) (q : TC h T) (k0 : ¬ T.length + 20 ≤ 4000 → Q (some (.int (-1))) h) (k : T.length + 20 ≤ 4000 → ∀ h', Sm [1, 2] h0 h' → TC h' (feS T a b c d e) → Q (some (.int (nI (T.length + 20)))) h') : WP X mX10_feed 2 42 0 (en 6 [.ref 0, .int a, .int b, .int c, .int d, .int e]) [] h Q := by
  refine w_aload_n dX10_feed_0 rfl rfl ?_
  refine w_gs (b := 1) q.1 dX10_feed_1 fX10_14 (by decide) rfl rfl (by decide) ?_
  refine w_bipush dX10_feed_4 (v := 20) (by decide) ?_
  refine w_v1 (d2 := 0) (L2 := 0) dX10_feed_6 vX10_41 rfl (q.1.lt (by decide)) rfl (by decide) (Nat.le_of_ble_eq_true rfl) (by decide) (by decide) ?_
  refine T_room1 (m := 20) (by decide) q.1 q.2 ?_
  refine k_i rfl ?_
  refine w_if_ne (tgt := 14) dX10_feed_9 (by decide) (fun c_9 => ?_) (fun c_9 => ?_)
  · have c_9 := c_9
    refine w_aload_n dX10_feed_14 rfl rfl ?_
    refine w_gs (b := 1) q.1 dX10_feed_15 fX10_14 (by decide) rfl rfl (by decide) ?_
    refine w_iload_n dX10_feed_18 rfl rfl ?_
    refine w_v1 (d2 := 1) (L2 := 21) dX10_feed_19 vX10_45 rfl (q.1.lt (by decide)) rfl (by decide) (Nat.le_of_ble_eq_true rfl) (by decide) (by decide) ?_
    refine T_add4 f q (fun h1 f1 q1 => ?_)
    refine k_v rfl ?_
    refine w_aload_n dX10_feed_22 rfl rfl ?_
    refine w_gs (b := 1) q1.1 dX10_feed_23 fX10_14 (by decide) rfl rfl (by decide) ?_
    refine w_iload_n dX10_feed_26 rfl rfl ?_
    refine w_v1 (d2 := 1) (L2 := 21) dX10_feed_27 vX10_45 rfl (q1.1.lt (by decide)) rfl (by decide) (Nat.le_of_ble_eq_true rfl) (by decide) (by decide) ?_
    refine T_add4 f1 q1 (fun h2 f2 q2 => ?_)
    refine k_v rfl ?_
    refine w_aload_n dX10_feed_30 rfl rfl ?_
    refine w_gs (b := 1) q2.1 dX10_feed_31 fX10_14 (by decide) rfl rfl (by decide) ?_
    refine w_iload_n dX10_feed_34 rfl rfl ?_
    refine w_v1 (d2 := 1) (L2 := 21) dX10_feed_35 vX10_45 rfl (q2.1.lt (by decide)) rfl (by decide) (Nat.le_of_ble_eq_true rfl) (by decide) (by decide) ?_
    refine T_add4 f2 q2 (fun h3 f3 q3 => ?_)
    refine k_v rfl ?_
    refine w_aload_n dX10_feed_38 rfl rfl ?_
    refine w_gs (b := 1) q3.1 dX10_feed_39 fX10_14 (by decide) rfl rfl (by decide) ?_
    refine w_iload dX10_feed_42 rfl ?_
    refine w_v1 (d2 := 1) (L2 := 21) dX10_feed_44 vX10_45 rfl (q3.1.lt (by decide)) rfl (by decide) (Nat.le_of_ble_eq_true rfl) (by decide) (by decide) ?_
    refine T_add4 f3 q3 (fun h4 f4 q4 => ?_)
    refine k_v rfl ?_
    refine w_aload_n dX10_feed_47 rfl rfl ?_
    refine w_gs (b := 1) q4.1 dX10_feed_48 fX10_14 (by decide) rfl rfl (by decide) ?_
    refine w_iload dX10_feed_51 rfl ?_
    refine w_v1 (d2 := 1) (L2 := 21) dX10_feed_53 vX10_45 rfl (q4.1.lt (by decide)) rfl (by decide) (Nat.le_of_ble_eq_true rfl) (by decide) (by decide) ?_
    refine T_add4 f4 q4 (fun h5 f5 q5 => ?_)
    refine k_v rfl ?_
    refine w_aload_n dX10_feed_56 rfl rfl ?_
    refine w_gs (b := 1) q5.1 dX10_feed_57 fX10_14 (by decide) rfl rfl (by decide) ?_
    refine w_gi q5.1 dX10_feed_60 fX10_48 rfl rfl (by decide) ?_
    refine w_iret dX10_feed_63 (fun _ e => by cases e; rfl) ?_
    have hr : T.length + 20 ≤ 4000 := Decidable.byContradiction (fun z => c_9 (if_neg z))
    have e1 : (T ++ by4 a).length = T.length + 4 := by rw [List.length_append]; rfl
    have e2 : (T ++ by4 a ++ by4 b).length = T.length + 8 := by rw [List.length_append, e1]; rfl
    have e3 : (T ++ by4 a ++ by4 b ++ by4 c).length = T.length + 12 := by rw [List.length_append, e2]; rfl
    have e4 : (T ++ by4 a ++ by4 b ++ by4 c ++ by4 d).length = T.length + 16 := by rw [List.length_append, e3]; rfl
    have e5 : (feS T a b c d e).length = T.length + 20 := by unfold feS; rw [List.length_append, e4]; rfl
    rw [add4_eq (T := T) (by omega), add4_eq (T := T ++ by4 a) (by omega), add4_eq (T := T ++ by4 a ++ by4 b) (by omega), add4_eq (T := T ++ by4 a ++ by4 b ++ by4 c) (by omega), add4_eq (T := T ++ by4 a ++ by4 b ++ by4 c ++ by4 d) (by omega)] at q5
    rw [q5.2.1, show (T ++ by4 a ++ by4 b ++ by4 c ++ by4 d ++ by4 e).length = T.length + 20 from e5]
    exact k hr _ f5 q5
  · have c_9 := c_9
    refine w_iconst dX10_feed_12 (v := (-1)) (by decide) ?_
    refine w_iret dX10_feed_13 (fun _ e => by cases e; rfl) ?_
    refine k0 (fun z => ?_)
    rw [if_pos z] at c_9; revert c_9; decide

set_option maxRecDepth 20000 in
set_option maxHeartbeats 4000000 in
/-- end(n) -/
theorem T_cend {X : Nat × (Nat → Int32)} {h0 h : PH} {Q : Option Value → PH → Prop} {T : List Int32} {i : Int32} (f : Sm [1, 2] h0 h) (q : TC h T) (k0 : (i < 0 ∨ nI T.length < i) → Q (some (.int 0)) h) (k : ∀ m : Nat, m ≤ T.length → i = nI m → ∀ h', Sm [1, 2] h0 h' → TC h' (T.take m) → Q (some (.int 1)) h') : WP X mX10_end 1 21 0 (en 2 [.ref 0, .int i]) [] h Q := by
  refine w_iload_n dX10_end_0 rfl rfl ?_
  refine w_if_lt (tgt := 15) dX10_end_1 (by decide) (fun c_1 => ?_) (fun c_1 => ?_)
  · refine w_iconst dX10_end_15 (v := 0) (by decide) ?_
    refine w_iret dX10_end_16 (fun _ e => by cases e; decide) ?_
    exact k0 (Or.inl c_1)
  · refine w_iload_n dX10_end_4 rfl rfl ?_
    refine w_aload_n dX10_end_5 rfl rfl ?_
    refine w_gs (b := 1) q.1 dX10_end_6 fX10_14 (by decide) rfl rfl (by decide) ?_
    refine w_gi q.1 dX10_end_9 fX10_48 rfl rfl (by decide) ?_
    refine w_icmp_le (tgt := 17) dX10_end_12 (by decide) (fun c_12 => ?_) (fun c_12 => ?_)
    · obtain ⟨m, hm, rfl⟩ := nI_of c_1
      have hl := q.2.2.1
      rw [q.2.1, nI_leI (by omega) (by omega)] at c_12
      refine w_aload_n dX10_end_17 rfl rfl ?_
      refine w_gs (b := 1) q.1 dX10_end_18 fX10_14 (by decide) rfl rfl (by decide) ?_
      refine w_iload_n dX10_end_21 rfl rfl ?_
      refine w_v1 (d2 := 0) (L2 := 0) dX10_end_22 vX10_52 rfl (q.1.lt (by decide)) rfl (by decide) (Nat.le_of_ble_eq_true rfl) (by decide) (by decide) ?_
      refine T_cutT c_12 f q (fun h1 f1 q1 => ?_)
      refine k_v rfl ?_
      refine w_iconst dX10_end_25 (v := 1) (by decide) ?_
      refine w_iret dX10_end_26 (fun _ e => by cases e; decide) ?_
      exact k m c_12 rfl _ f1 q1
    · refine w_iconst dX10_end_15 (v := 0) (by decide) ?_
      refine w_iret dX10_end_16 (fun _ e => by cases e; decide) ?_
      exact k0 (Or.inr (by rw [q.2.1] at c_12; exact Int32.not_le.mp c_12))

set_option maxRecDepth 20000 in
set_option maxHeartbeats 4000000 in
/-- written(i) -/
theorem T_cwritten {X : Nat × (Nat → Int32)} {h : PH} {Q : Option Value → PH → Prop} {L9 : List Int32} {i : Int32} (q : LC h L9) (k : Q (some (.int (bA L9 i))) h) : WP X mX10_written 1 21 0 (en 2 [.ref 0, .int i]) [] h Q := by
  refine w_aload_n dX10_written_0 rfl rfl ?_
  refine w_gs (b := 22) q.1 dX10_written_1 fX10_37 (by decide) rfl rfl (by decide) ?_
  refine w_gs (b := 23) q.1 dX10_written_4 fX10_144 (by decide) rfl rfl (by decide) ?_
  refine w_iload_n dX10_written_7 rfl rfl ?_
  refine w_v1 (d2 := 0) (L2 := 0) dX10_written_8 vX10_147 rfl (q.1.lt (by decide)) rfl (by decide) (Nat.le_of_ble_eq_true rfl) (by decide) (by decide) ?_
  refine T_byte2 q.1 q.2 ?_
  refine k_i rfl ?_
  refine w_iret dX10_written_11 (fun _ e => by cases e; rfl) ?_
  exact k

