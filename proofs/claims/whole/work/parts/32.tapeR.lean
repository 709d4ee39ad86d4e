/-! again of the class; the TAPE of the reference -/
theorem by_b {x v : Int32} (h : x &&& 255 = v) : v &&& 255 = v := by
  rw [← h, Int32.and_assoc]; rfl
theorem take_s {L : List Int32} {i : Nat} {v : Int32} (h : L[i]? = some v) : L.take (i + 1) = L.take i ++ [v] := by
  rw [List.take_add_one, h]; rfl
set_option maxRecDepth 20000 in
set_option maxHeartbeats 4000000 in
theorem L_ag {X : Nat × (Nat → Int32)} {h0 : PH} {Q : Option Value → PH → Prop} {T L9 : List Int32} (hr : T.length + L9.length + 1 ≤ 4000) (ql : BY 23 24 32 h0 L9) : ∀ (m n : Nat) (h : PH), n + m = L9.length → Sm [1, 2] h0 h → TC h (T ++ L9.take n) → (∀ h', Sm [1, 2] h0 h' → TC h' (T ++ L9 ++ [10]) → Q (some (.int (nI (T.length + L9.length + 1)))) h') → WP X mX10_again 1 21 28 [some (.ref 0), some (.ref 23), some (.int (nI n))] [] h Q := by
  intro m
  induction m with
  | zero =>
    intro n h hn f q k
    obtain rfl : n = L9.length := by omega
    rw [List.take_length] at q
    refine w_iload_n dX10_again_28 rfl rfl ?_
    refine w_aload_n dX10_again_29 rfl rfl ?_
    refine w_gi q.1 dX10_again_30 fX10_48 rfl rfl (by decide) ?_
    refine w_icmp_ge (tgt := 54) dX10_again_33 (by decide) (fun c_33 => ?_) (fun c_33 => absurd c_33 (not_not_intro (by rw [(ql.fr f (by decide) (by decide)).1]; exact nI_le (Nat.le_refl _) (by omega))))
    refine w_aload_n dX10_again_54 rfl rfl ?_
    refine w_gs (b := 1) q.1 dX10_again_55 fX10_14 (by decide) rfl rfl (by decide) ?_
    refine w_bipush dX10_again_58 (v := 10) (by decide) ?_
    refine w_v1 (d2 := 0) (L2 := 0) dX10_again_60 vX10_150 rfl (q.1.lt (by decide)) rfl (by decide) (Nat.le_of_ble_eq_true rfl) (by decide) (by decide) ?_
    refine T_addT f q (fun h1 f1 q1 => ?_)
    refine k_v rfl ?_
    refine w_aload_n dX10_again_63 rfl rfl ?_
    refine w_gs (b := 1) q1.1 dX10_again_64 fX10_14 (by decide) rfl rfl (by decide) ?_
    refine w_gi q1.1 dX10_again_67 fX10_48 rfl rfl (by decide) ?_
    refine w_iret dX10_again_70 (fun _ e => by cases e; rfl) ?_
    rw [addB_lt (T := T ++ L9) (by rw [List.length_append]; omega)] at q1
    rw [q1.2.1, show (T ++ L9 ++ [(10 : Int32) &&& 255]).length = T.length + L9.length + 1 by simp [Nat.add_assoc]]
    exact k _ f1 q1
  | succ m ih =>
    intro n h hn f q k
    have hb := ql.2.1
    have hlt : n < L9.length := by omega
    have hg := List.getElem?_eq_getElem hlt
    have hv := by_b (ql.2.2 n _ hg)
    refine w_iload_n dX10_again_28 rfl rfl ?_
    refine w_aload_n dX10_again_29 rfl rfl ?_
    refine w_gi q.1 dX10_again_30 fX10_48 rfl rfl (by decide) ?_
    refine w_icmp_ge (tgt := 54) dX10_again_33 (by decide) (fun c_33 => absurd c_33 (by rw [(ql.fr f (by decide) (by decide)).1]; exact nI_ge (by omega) (by omega))) (fun c_33 => ?_)
    refine w_aload_n dX10_again_36 rfl rfl ?_
    refine w_gs (b := 1) q.1 dX10_again_37 fX10_14 (by decide) rfl rfl (by decide) ?_
    refine w_aload_n dX10_again_40 rfl rfl ?_
    refine w_iload_n dX10_again_41 rfl rfl ?_
    refine w_v1 (d2 := 0) (L2 := 0) dX10_again_42 vX10_147 rfl (q.1.lt (by decide)) rfl (by decide) (Nat.le_of_ble_eq_true rfl) (by decide) (by decide) ?_
    refine T_byte2 (T := L9) q.1 (ql.fr f (by decide) (by decide)) ?_
    refine k_i rfl ?_
    refine w_v1 (d2 := 0) (L2 := 0) dX10_again_45 vX10_150 rfl (q.1.lt (by decide)) rfl (by decide) (Nat.le_of_ble_eq_true rfl) (by decide) (by decide) ?_
    refine T_addT f q (fun h1 f1 q1 => ?_)
    refine k_v rfl ?_
    refine w_iinc (v := nI (n + 1)) dX10_again_48 rfl (nI_1 n) (by decide) ?_
    refine w_goto (tgt := 28) dX10_again_51 (by decide) ?_
    refine ih (n + 1) _ (by omega) f1 ?_ k
    rw [addB_lt (by rw [List.length_append, List.length_take]; omega), bA_n (by omega), hg, show (some L9[n]).getD (-1) = L9[n] from rfl, hv, List.append_assoc, ← take_s hg] at q1
    exact q1

set_option maxRecDepth 20000 in
set_option maxHeartbeats 4000000 in
/-- again() -/
theorem T_cagain {X : Nat × (Nat → Int32)} {h : PH} {Q : Option Value → PH → Prop} {T L9 : List Int32} (ql : BY 23 24 32 h L9) (q : TC h T) (k0 : ¬ T.length + L9.length + 1 ≤ 4000 → Q (some (.int (-1))) h) (k : T.length + L9.length + 1 ≤ 4000 → ∀ h', Sm [1, 2] h h' → TC h' (T ++ L9 ++ [10]) → Q (some (.int (nI (T.length + L9.length + 1)))) h') : WP X mX10_again 1 21 0 (en 3 [.ref 0]) [] h Q := by
  refine w_aload_n dX10_again_0 rfl rfl ?_
  refine w_gs (b := 22) q.1 dX10_again_1 fX10_37 (by decide) rfl rfl (by decide) ?_
  refine w_gs (b := 23) q.1 dX10_again_4 fX10_144 (by decide) rfl rfl (by decide) ?_
  refine w_astore_n dX10_again_7 rfl (by decide) ?_
  refine w_aload_n dX10_again_8 rfl rfl ?_
  refine w_gs (b := 1) q.1 dX10_again_9 fX10_14 (by decide) rfl rfl (by decide) ?_
  refine w_aload_n dX10_again_12 rfl rfl ?_
  refine w_gi q.1 dX10_again_13 fX10_48 rfl rfl (by decide) ?_
  refine w_iconst dX10_again_16 (v := 1) (by decide) ?_
  refine w_iadd dX10_again_17 ?_
  refine w_v1 (d2 := 0) (L2 := 0) dX10_again_18 vX10_41 rfl (q.1.lt (by decide)) rfl (by decide) (Nat.le_of_ble_eq_true rfl) (by decide) (by decide) ?_
  rw [ql.1, nI_1]
  have hb := ql.2.1
  refine T_room1 (m := L9.length + 1) (by omega) q.1 q.2 ?_
  refine k_i rfl ?_
  refine w_if_ne (tgt := 26) dX10_again_21 (by decide) (fun c_21 => ?_) (fun c_21 => ?_)
  · refine w_iconst dX10_again_26 (v := 0) (by decide) ?_
    refine w_istore_n dX10_again_27 rfl (by decide) ?_
    have hr : T.length + L9.length + 1 ≤ 4000 := Decidable.byContradiction (fun z => c_21 (if_neg (by omega)))
    exact L_ag hr ql L9.length 0 _ (by omega) Sm.rf (by rw [List.take_zero, List.append_nil]; exact q) (k hr)
  · refine w_iconst dX10_again_24 (v := (-1)) (by decide) ?_
    refine w_iret dX10_again_25 (fun _ e => by cases e; rfl) ?_
    refine k0 (fun z => ?_)
    rw [if_pos (by omega)] at c_21; revert c_21; decide

/-- the reference's TAPE: n in its field, T in its row -/
def RTp (n : Nat) (h : PH) (T : List Int32) : Prop := St h ∧ hI h 25 21 = nI n ∧ T.length ≤ 4000 ∧ ∀ (i : Nat) (v : Int32), T[i]? = some v → hI h 30 i = v
def FT (h h' : PH) : Prop := Sm [25, 30] h h' ∧ ∀ k, k ≠ 21 → hI h' 25 k = hI h 25 k
theorem FT.rf {h : PH} : FT h h := ⟨Sm.rf, fun _ _ => rfl⟩
theorem FT.tr {h h1 h2 : PH} (q : FT h h1) (r : FT h1 h2) : FT h h2 := ⟨q.1.tr r.1, fun k hk => (r.2 k hk).trans (q.2 k hk)⟩
section RTS
variable {X : Nat × (Nat → Int32)} {M : MR} {d L pc idx n m : Nat} {ls : List (Option Value)} {st : List Value} {h0 h : PH} {T : List Int32} {Q : Option Value → PH → Prop} {i v : Int32}
theorem p_put (f : FT h0 h) (q : RTp n h T) (hd : decode M.2.1 pc = .ok (.iastore, 1)) (hl : T.length < 4000) (hi : i = nI T.length) (kk : ∀ h', FT h0 h' → RTp n h' (T ++ [v]) → WP X M d L (pc + 1) ls st h' Q) : WP X M d L pc ls (.int v :: .int i :: .ref 30 :: st) h Q := by
  subst hi
  refine w_iastore hd rfl (q.1.lt (by decide)) (vp_in_nI (show T.length < 4020 by omega) (by decide)) ?_
  rw [nI_clamp (by omega)]
  refine kk _ ⟨f.1.i (by decide), fun k hk => (rI_a (by decide)).trans (f.2 k hk)⟩ ⟨q.1.i, (rI_a (by decide)).trans q.2.1, ?_, fun j w hw => ?_⟩
  · rw [List.length_append]; show _ + 1 ≤ 4000; omega
  · rcases app_get hw with ⟨c1, h1⟩ | ⟨c1, h1⟩
    · rw [rI_k (by omega)]; exact q.2.2.2 j w h1
    · rw [c1, rI_s]; exact h1
theorem p_fld (f : FT h0 h) (q : RTp n h T) (hd : decode M.2.1 pc = .ok (.putfield idx, 3)) (hf : FL M.1 idx 10 21 .int false) (hv : v = nI m) (kk : ∀ h', FT h0 h' → RTp m h' T → WP X M d L (pc + 3) ls st h' Q) : WP X M d L pc ls (.int v :: .ref 25 :: st) h Q :=
  w_pi q.1 hd hf rfl rfl (by decide) (kk _ ⟨f.1.i (by decide), fun k hk => (rI_k hk).trans (f.2 k hk)⟩ ⟨q.1.i, by rw [rI_s, hv], q.2.2.1, fun j w hw => (rI_a (by decide)).trans (q.2.2.2 j w hw)⟩)
theorem p_thr (q : RTp n h T) (hd : decode M.2.1 pc = .ok (.putfield idx, 3)) (hf : FL M.1 idx 10 0 .int false) (kk : FT (sI h 25 0 v) (sI h 25 0 v) → RTp n (sI h 25 0 v) T → WP X M d L (pc + 3) ls st (sI h 25 0 v) Q) : WP X M d L pc ls (.int v :: .ref 25 :: st) h Q :=
  w_pi q.1 hd hf rfl rfl (by decide) (kk FT.rf ⟨q.1.i, (rI_k (by decide)).trans q.2.1, q.2.2.1, fun j w hw => (rI_a (by decide)).trans (q.2.2.2 j w hw)⟩)
theorem RTp.g (q : RTp n h T) : hI h 25 21 = nI n := q.2.1
end RTS
set_option maxRecDepth 20000 in
set_option maxHeartbeats 4000000 in
/-- four(v) -/
theorem T_four {X : Nat × (Nat → Int32)} {h0 h : PH} {Q : Option Value → PH → Prop} {T : List Int32} {v : Int32} (hl : T.length + 4 ≤ 4000) (f : FT h0 h) (q : RTp T.length h T) (k : ∀ h', FT h0 h' → RTp (T.length + 4) h' (T ++ by4 v) → Q none h') : WP X mX11_four 0 0 0 (en 3 [.ref 25, .int v]) [] h Q := by
  refine w_iconst dX11_four_0 (v := 0) (by decide) ?_
  refine w_istore_n dX11_four_1 rfl (by decide) ?_
  refine w_iload_n dX11_four_2 rfl rfl ?_
  refine w_iconst dX11_four_3 (v := 4) (by decide) ?_
  refine w_icmp_ge (tgt := 37) dX11_four_4 (by decide) (fun c_4 => absurd c_4 (by decide)) (fun c_4 => ?_)
  refine w_aload_n dX11_four_7 rfl rfl ?_
  refine w_gs (b := 30) q.1 dX11_four_8 fX11_23 (by decide) rfl rfl (by decide) ?_
  refine w_aload_n dX11_four_11 rfl rfl ?_
  refine w_gi q.1 dX11_four_12 fX11_184 rfl rfl (by decide) ?_
  refine w_iload_n dX11_four_15 rfl rfl ?_
  refine w_iadd dX11_four_16 ?_
  refine w_iload_n dX11_four_17 rfl rfl ?_
  refine w_bipush dX11_four_18 (v := 24) (by decide) ?_
  refine w_bipush dX11_four_20 (v := 8) (by decide) ?_
  refine w_iload_n dX11_four_22 rfl rfl ?_
  refine w_imul dX11_four_23 ?_
  refine w_isub dX11_four_24 ?_
  refine w_ishr dX11_four_25 ?_
  refine w_sipush dX11_four_26 (v := 255) (by decide) ?_
  refine w_iand dX11_four_29 ?_
  refine p_put f q dX11_four_30 (by omega) (by rw [RTp.g q]; exact (nI_add T.length 0).trans (congrArg nI (by simp))) (fun h1 f1 q1 => ?_)
  refine w_iinc (v := 1) dX11_four_31 rfl (by decide) (by decide) ?_
  refine w_goto (tgt := 2) dX11_four_34 (by decide) ?_
  refine w_iload_n dX11_four_2 rfl rfl ?_
  refine w_iconst dX11_four_3 (v := 4) (by decide) ?_
  refine w_icmp_ge (tgt := 37) dX11_four_4 (by decide) (fun c_4 => absurd c_4 (by decide)) (fun c_4 => ?_)
  refine w_aload_n dX11_four_7 rfl rfl ?_
  refine w_gs (b := 30) q1.1 dX11_four_8 fX11_23 (by decide) rfl rfl (by decide) ?_
  refine w_aload_n dX11_four_11 rfl rfl ?_
  refine w_gi q1.1 dX11_four_12 fX11_184 rfl rfl (by decide) ?_
  refine w_iload_n dX11_four_15 rfl rfl ?_
  refine w_iadd dX11_four_16 ?_
  refine w_iload_n dX11_four_17 rfl rfl ?_
  refine w_bipush dX11_four_18 (v := 24) (by decide) ?_
  refine w_bipush dX11_four_20 (v := 8) (by decide) ?_
  refine w_iload_n dX11_four_22 rfl rfl ?_
  refine w_imul dX11_four_23 ?_
  refine w_isub dX11_four_24 ?_
  refine w_ishr dX11_four_25 ?_
  refine w_sipush dX11_four_26 (v := 255) (by decide) ?_
  refine w_iand dX11_four_29 ?_
  refine p_put f1 q1 dX11_four_30 (by simp; omega) (by rw [RTp.g q1]; exact (nI_add T.length 1).trans (congrArg nI (by simp))) (fun h2 f2 q2 => ?_)
  refine w_iinc (v := 2) dX11_four_31 rfl (by decide) (by decide) ?_
  refine w_goto (tgt := 2) dX11_four_34 (by decide) ?_
  refine w_iload_n dX11_four_2 rfl rfl ?_
  refine w_iconst dX11_four_3 (v := 4) (by decide) ?_
  refine w_icmp_ge (tgt := 37) dX11_four_4 (by decide) (fun c_4 => absurd c_4 (by decide)) (fun c_4 => ?_)
  refine w_aload_n dX11_four_7 rfl rfl ?_
  refine w_gs (b := 30) q2.1 dX11_four_8 fX11_23 (by decide) rfl rfl (by decide) ?_
  refine w_aload_n dX11_four_11 rfl rfl ?_
  refine w_gi q2.1 dX11_four_12 fX11_184 rfl rfl (by decide) ?_
  refine w_iload_n dX11_four_15 rfl rfl ?_
  refine w_iadd dX11_four_16 ?_
  refine w_iload_n dX11_four_17 rfl rfl ?_
  refine w_bipush dX11_four_18 (v := 24) (by decide) ?_
  refine w_bipush dX11_four_20 (v := 8) (by decide) ?_
  refine w_iload_n dX11_four_22 rfl rfl ?_
  refine w_imul dX11_four_23 ?_
  refine w_isub dX11_four_24 ?_
  refine w_ishr dX11_four_25 ?_
  refine w_sipush dX11_four_26 (v := 255) (by decide) ?_
  refine w_iand dX11_four_29 ?_
  refine p_put f2 q2 dX11_four_30 (by simp; omega) (by rw [RTp.g q2]; exact (nI_add T.length 2).trans (congrArg nI (by simp))) (fun h3 f3 q3 => ?_)
  refine w_iinc (v := 3) dX11_four_31 rfl (by decide) (by decide) ?_
  refine w_goto (tgt := 2) dX11_four_34 (by decide) ?_
  refine w_iload_n dX11_four_2 rfl rfl ?_
  refine w_iconst dX11_four_3 (v := 4) (by decide) ?_
  refine w_icmp_ge (tgt := 37) dX11_four_4 (by decide) (fun c_4 => absurd c_4 (by decide)) (fun c_4 => ?_)
  refine w_aload_n dX11_four_7 rfl rfl ?_
  refine w_gs (b := 30) q3.1 dX11_four_8 fX11_23 (by decide) rfl rfl (by decide) ?_
  refine w_aload_n dX11_four_11 rfl rfl ?_
  refine w_gi q3.1 dX11_four_12 fX11_184 rfl rfl (by decide) ?_
  refine w_iload_n dX11_four_15 rfl rfl ?_
  refine w_iadd dX11_four_16 ?_
  refine w_iload_n dX11_four_17 rfl rfl ?_
  refine w_bipush dX11_four_18 (v := 24) (by decide) ?_
  refine w_bipush dX11_four_20 (v := 8) (by decide) ?_
  refine w_iload_n dX11_four_22 rfl rfl ?_
  refine w_imul dX11_four_23 ?_
  refine w_isub dX11_four_24 ?_
  refine w_ishr dX11_four_25 ?_
  refine w_sipush dX11_four_26 (v := 255) (by decide) ?_
  refine w_iand dX11_four_29 ?_
  refine p_put f3 q3 dX11_four_30 (by simp; omega) (by rw [RTp.g q3]; exact (nI_add T.length 3).trans (congrArg nI (by simp))) (fun h4 f4 q4 => ?_)
  refine w_iinc (v := 4) dX11_four_31 rfl (by decide) (by decide) ?_
  refine w_goto (tgt := 2) dX11_four_34 (by decide) ?_
  refine w_iload_n dX11_four_2 rfl rfl ?_
  refine w_iconst dX11_four_3 (v := 4) (by decide) ?_
  refine w_icmp_ge (tgt := 37) dX11_four_4 (by decide) (fun c_4 => ?_) (fun c_4 => absurd c_4 (by decide))
  refine w_aload_n dX11_four_37 rfl rfl ?_
  refine w_dup dX11_four_38 rfl ?_
  refine w_gi q4.1 dX11_four_39 fX11_184 rfl rfl (by decide) ?_
  refine w_iconst dX11_four_42 (v := 4) (by decide) ?_
  refine w_iadd dX11_four_43 ?_
  refine p_fld (m := T.length + 4) f4 q4 dX11_four_44 fX11_184 (by rw [RTp.g q4]; exact nI_add T.length 4) (fun h5 f5 q5 => ?_)
  refine w_vret dX11_four_47 ?_
  refine k _ f5 ?_
  have e : T ++ by4 v = T ++ [v >>> ((24 - 8 * 0 : Int32) &&& 31) &&& 255] ++ [v >>> ((24 - 8 * 1 : Int32) &&& 31) &&& 255] ++ [v >>> ((24 - 8 * 2 : Int32) &&& 31) &&& 255] ++ [v >>> ((24 - 8 * 3 : Int32) &&& 31) &&& 255] := by
    rw [show v >>> ((24 - 8 * 3 : Int32) &&& 31) = v from sb_shr0 v]
    unfold by4
    simp only [List.append_assoc, List.cons_append, List.nil_append]
    rfl
  rw [e]; exact q5

set_option maxRecDepth 20000 in
set_option maxHeartbeats 4000000 in
/-- feed(a, b, c, d, e) -/
theorem T_mfeed {X : Nat × (Nat → Int32)} {h : PH} {Q : Option Value → PH → Prop} {T : List Int32} {a b c d e : Int32} (q : RTp T.length h T) (k0 : ¬ T.length + 20 ≤ 4000 → ∀ h', FT (sI h 25 0 0) h' → RTp T.length h' T → Q (some (.int (-1))) h') (k : T.length + 20 ≤ 4000 → ∀ h', FT (sI h 25 0 0) h' → RTp (T.length + 20) h' (feS T a b c d e) → Q (some (.int (nI (T.length + 20)))) h') : WP X mX11_feed 1 22 0 (en 6 [.ref 25, .int a, .int b, .int c, .int d, .int e]) [] h Q := by
  refine w_aload_n dX11_feed_0 rfl rfl ?_
  refine w_iconst dX11_feed_1 (v := 0) (by decide) ?_
  refine p_thr q dX11_feed_2 fX11_60 (fun f1 q1 => ?_)
  refine w_aload_n dX11_feed_5 rfl rfl ?_
  refine w_gi q1.1 dX11_feed_6 fX11_184 rfl rfl (by decide) ?_
  refine w_bipush dX11_feed_9 (v := 20) (by decide) ?_
  refine w_iadd dX11_feed_11 ?_
  refine w_sipush dX11_feed_12 (v := 4000) (by decide) ?_
  refine w_icmp_le (tgt := 20) dX11_feed_15 (by decide) (fun c_15 => ?_) (fun c_15 => ?_)
  · have hl := q.2.2.1
    rw [q1.2.1, show (20 : Int32) = nI 20 from rfl, show (4000 : Int32) = nI 4000 from rfl, nI_add, nI_leI (by omega) (by decide)] at c_15
    have e1 : (T ++ by4 a).length = T.length + 4 := by rw [List.length_append]; rfl
    have e2 : (T ++ by4 a ++ by4 b).length = T.length + 8 := by rw [List.length_append, e1]; rfl
    have e3 : (T ++ by4 a ++ by4 b ++ by4 c).length = T.length + 12 := by rw [List.length_append, e2]; rfl
    have e4 : (T ++ by4 a ++ by4 b ++ by4 c ++ by4 d).length = T.length + 16 := by rw [List.length_append, e3]; rfl
    refine w_aload_n dX11_feed_20 rfl rfl ?_
    refine w_iload_n dX11_feed_21 rfl rfl ?_
    refine w_v1 (d2 := 0) (L2 := 0) dX11_feed_22 vX11_187 rfl (q1.1.lt (by decide)) rfl (by decide) (Nat.le_of_ble_eq_true rfl) (by decide) (by decide) ?_
    refine T_four (T := T) (by omega) f1 (by rw [show (T).length = T.length + 0 by simp [by4_len, Nat.add_assoc]]; exact q1) (fun h2 f2 q2 => ?_)
    rw [show (T).length + 4 = T.length + 4 by simp [by4_len, Nat.add_assoc]] at q2
    refine k_v rfl ?_
    refine w_aload_n dX11_feed_25 rfl rfl ?_
    refine w_iload_n dX11_feed_26 rfl rfl ?_
    refine w_v1 (d2 := 0) (L2 := 0) dX11_feed_27 vX11_187 rfl (q2.1.lt (by decide)) rfl (by decide) (Nat.le_of_ble_eq_true rfl) (by decide) (by decide) ?_
    refine T_four (T := T ++ by4 a) (by omega) f2 (by rw [show (T ++ by4 a).length = T.length + 4 by simp [by4_len, Nat.add_assoc]]; exact q2) (fun h3 f3 q3 => ?_)
    rw [show (T ++ by4 a).length + 4 = T.length + 8 by simp [by4_len, Nat.add_assoc]] at q3
    refine k_v rfl ?_
    refine w_aload_n dX11_feed_30 rfl rfl ?_
    refine w_iload_n dX11_feed_31 rfl rfl ?_
    refine w_v1 (d2 := 0) (L2 := 0) dX11_feed_32 vX11_187 rfl (q3.1.lt (by decide)) rfl (by decide) (Nat.le_of_ble_eq_true rfl) (by decide) (by decide) ?_
    refine T_four (T := T ++ by4 a ++ by4 b) (by omega) f3 (by rw [show (T ++ by4 a ++ by4 b).length = T.length + 8 by simp [by4_len, Nat.add_assoc]]; exact q3) (fun h4 f4 q4 => ?_)
    rw [show (T ++ by4 a ++ by4 b).length + 4 = T.length + 12 by simp [by4_len, Nat.add_assoc]] at q4
    refine k_v rfl ?_
    refine w_aload_n dX11_feed_35 rfl rfl ?_
    refine w_iload dX11_feed_36 rfl ?_
    refine w_v1 (d2 := 0) (L2 := 0) dX11_feed_38 vX11_187 rfl (q4.1.lt (by decide)) rfl (by decide) (Nat.le_of_ble_eq_true rfl) (by decide) (by decide) ?_
    refine T_four (T := T ++ by4 a ++ by4 b ++ by4 c) (by omega) f4 (by rw [show (T ++ by4 a ++ by4 b ++ by4 c).length = T.length + 12 by simp [by4_len, Nat.add_assoc]]; exact q4) (fun h5 f5 q5 => ?_)
    rw [show (T ++ by4 a ++ by4 b ++ by4 c).length + 4 = T.length + 16 by simp [by4_len, Nat.add_assoc]] at q5
    refine k_v rfl ?_
    refine w_aload_n dX11_feed_41 rfl rfl ?_
    refine w_iload dX11_feed_42 rfl ?_
    refine w_v1 (d2 := 0) (L2 := 0) dX11_feed_44 vX11_187 rfl (q5.1.lt (by decide)) rfl (by decide) (Nat.le_of_ble_eq_true rfl) (by decide) (by decide) ?_
    refine T_four (T := T ++ by4 a ++ by4 b ++ by4 c ++ by4 d) (by omega) f5 (by rw [show (T ++ by4 a ++ by4 b ++ by4 c ++ by4 d).length = T.length + 16 by simp [by4_len, Nat.add_assoc]]; exact q5) (fun h6 f6 q6 => ?_)
    rw [show (T ++ by4 a ++ by4 b ++ by4 c ++ by4 d).length + 4 = T.length + 20 by simp [by4_len, Nat.add_assoc]] at q6
    refine k_v rfl ?_
    refine w_aload_n dX11_feed_47 rfl rfl ?_
    refine w_gi q6.1 dX11_feed_48 fX11_184 rfl rfl (by decide) ?_
    refine w_iret dX11_feed_51 (fun _ e => by cases e; rfl) ?_
    rw [q6.2.1]; exact k c_15 _ f6 q6
  · have hl := q.2.2.1
    rw [q1.2.1, show (20 : Int32) = nI 20 from rfl, show (4000 : Int32) = nI 4000 from rfl, nI_add, nI_leI (by omega) (by decide)] at c_15
    have e1 : (T ++ by4 a).length = T.length + 4 := by rw [List.length_append]; rfl
    have e2 : (T ++ by4 a ++ by4 b).length = T.length + 8 := by rw [List.length_append, e1]; rfl
    have e3 : (T ++ by4 a ++ by4 b ++ by4 c).length = T.length + 12 := by rw [List.length_append, e2]; rfl
    have e4 : (T ++ by4 a ++ by4 b ++ by4 c ++ by4 d).length = T.length + 16 := by rw [List.length_append, e3]; rfl
    refine w_iconst dX11_feed_18 (v := (-1)) (by decide) ?_
    refine w_iret dX11_feed_19 (fun _ e => by cases e; rfl) ?_
    exact k0 c_15 _ f1 q1

set_option maxRecDepth 20000 in
set_option maxHeartbeats 4000000 in
/-- end(n) -/
theorem T_mend {X : Nat × (Nat → Int32)} {h : PH} {Q : Option Value → PH → Prop} {T : List Int32} {i : Int32} (q : RTp T.length h T) (k0 : (i < 0 ∨ nI T.length < i) → ∀ h', FT (sI h 25 0 0) h' → RTp T.length h' T → Q (some (.int 0)) h') (k : ∀ m : Nat, m ≤ T.length → i = nI m → ∀ h', FT (sI h 25 0 0) h' → RTp m h' (T.take m) → Q (some (.int 1)) h') : WP X mX11_end 0 0 0 (en 2 [.ref 25, .int i]) [] h Q := by
  refine w_aload_n dX11_end_0 rfl rfl ?_
  refine w_iconst dX11_end_1 (v := 0) (by decide) ?_
  refine p_thr q dX11_end_2 fX11_60 (fun f1 q1 => ?_)
  refine w_iload_n dX11_end_5 rfl rfl ?_
  refine w_if_lt (tgt := 17) dX11_end_6 (by decide) (fun c_6 => ?_) (fun c_6 => ?_)
  · refine w_iconst dX11_end_17 (v := 0) (by decide) ?_
    refine w_iret dX11_end_18 (fun _ e => by cases e; decide) ?_
    exact k0 (Or.inl c_6) _ f1 q1
  · refine w_iload_n dX11_end_9 rfl rfl ?_
    refine w_aload_n dX11_end_10 rfl rfl ?_
    refine w_gi q1.1 dX11_end_11 fX11_184 rfl rfl (by decide) ?_
    refine w_icmp_le (tgt := 19) dX11_end_14 (by decide) (fun c_14 => ?_) (fun c_14 => ?_)
    · obtain ⟨m, hm, rfl⟩ := nI_of c_6
      have hl := q.2.2.1
      rw [q1.2.1, nI_leI (by omega) (by omega)] at c_14
      refine w_aload_n dX11_end_19 rfl rfl ?_
      refine w_iload_n dX11_end_20 rfl rfl ?_
      refine p_fld (m := m) f1 q1 dX11_end_21 fX11_184 rfl (fun h2 f2 q2 => ?_)
      refine w_iconst dX11_end_24 (v := 1) (by decide) ?_
      refine w_iret dX11_end_25 (fun _ e => by cases e; decide) ?_
      exact k m c_14 rfl _ f2 ⟨q2.1, q2.2.1, by rw [List.length_take]; omega, fun j w hw => q2.2.2.2 j w (by rw [List.getElem?_take] at hw; split at hw; exact hw; cases hw)⟩
    · refine w_iconst dX11_end_17 (v := 0) (by decide) ?_
      refine w_iret dX11_end_18 (fun _ e => by cases e; decide) ?_
      exact k0 (Or.inr (by rw [q1.2.1] at c_14; exact Int32.not_le.mp c_14)) _ f1 q1

/-- the reference's line -/
def LR (h : PH) (T : List Int32) : Prop := hI h 25 38 = nI T.length ∧ T.length ≤ 32 ∧ ∀ (i : Nat) (v : Int32), T[i]? = some v → hI h 37 i = v
theorem LR.ft {h h' : PH} {T : List Int32} (q : LR h T) (f : FT h h') : LR h' T := by
  unfold LR; rw [f.2 38 (by decide), f.1.I (a := 37) (by decide)]; exact q
theorem LR.thr {h : PH} {T : List Int32} {v : Int32} (q : LR h T) : LR (sI h 25 0 v) T := ⟨(rI_k (by decide)).trans q.1, q.2.1, fun i w hw => (rI_a (by decide)).trans (q.2.2 i w hw)⟩
set_option maxRecDepth 20000 in
set_option maxHeartbeats 4000000 in
theorem L_mag {X : Nat × (Nat → Int32)} {h0 : PH} {Q : Option Value → PH → Prop} {T L9 : List Int32} (hr : T.length + L9.length + 1 ≤ 4000) (ql : LR h0 L9) : ∀ (m n : Nat) (h : PH), n + m = L9.length → FT h0 h → RTp T.length h (T ++ L9.take n) → (∀ h', FT h0 h' → RTp (T.length + L9.length + 1) h' (T ++ L9 ++ [10]) → Q (some (.int (nI (T.length + L9.length + 1)))) h') → WP X mX11_again 0 0 26 [some (.ref 25), some (.int (nI n))] [] h Q := by
  intro m
  induction m with
  | zero =>
    intro n h hn f q k
    obtain rfl : n = L9.length := by omega
    rw [List.take_length] at q
    refine w_iload_n dX11_again_26 rfl rfl ?_
    refine w_aload_n dX11_again_27 rfl rfl ?_
    refine w_gi q.1 dX11_again_28 fX11_363 rfl rfl (by decide) ?_
    refine w_icmp_ge (tgt := 57) dX11_again_31 (by decide) (fun c_31 => ?_) (fun c_31 => absurd c_31 (not_not_intro (by rw [(ql.ft f).1]; exact nI_le (Nat.le_refl _) (by omega))))
    refine w_aload_n dX11_again_57 rfl rfl ?_
    refine w_gs (b := 30) q.1 dX11_again_58 fX11_23 (by decide) rfl rfl (by decide) ?_
    refine w_aload_n dX11_again_61 rfl rfl ?_
    refine w_gi q.1 dX11_again_62 fX11_184 rfl rfl (by decide) ?_
    refine w_aload_n dX11_again_65 rfl rfl ?_
    refine w_gi q.1 dX11_again_66 fX11_363 rfl rfl (by decide) ?_
    refine w_iadd dX11_again_69 ?_
    refine w_bipush dX11_again_70 (v := 10) (by decide) ?_
    refine p_put f q dX11_again_72 (by rw [List.length_append]; omega) (by rw [q.2.1, (ql.ft f).1, nI_add, List.length_append]) (fun h1 f1 q1 => ?_)
    refine w_aload_n dX11_again_73 rfl rfl ?_
    refine w_dup dX11_again_74 rfl ?_
    refine w_gi q1.1 dX11_again_75 fX11_184 rfl rfl (by decide) ?_
    refine w_aload_n dX11_again_78 rfl rfl ?_
    refine w_gi q1.1 dX11_again_79 fX11_363 rfl rfl (by decide) ?_
    refine w_iconst dX11_again_82 (v := 1) (by decide) ?_
    refine w_iadd dX11_again_83 ?_
    refine w_iadd dX11_again_84 ?_
    refine p_fld (m := T.length + L9.length + 1) f1 q1 dX11_again_85 fX11_184 (by rw [RTp.g q1, (ql.ft f1).1, nI_1, nI_add, Nat.add_assoc]) (fun h2 f2 q2 => ?_)
    refine w_aload_n dX11_again_88 rfl rfl ?_
    refine w_gi q2.1 dX11_again_89 fX11_184 rfl rfl (by decide) ?_
    refine w_iret dX11_again_92 (fun _ e => by cases e; rfl) ?_
    rw [q2.2.1]; exact k _ f2 q2
  | succ m ih =>
    intro n h hn f q k
    have hb := ql.2.1
    have hlt : n < L9.length := by omega
    have hg := List.getElem?_eq_getElem hlt
    refine w_iload_n dX11_again_26 rfl rfl ?_
    refine w_aload_n dX11_again_27 rfl rfl ?_
    refine w_gi q.1 dX11_again_28 fX11_363 rfl rfl (by decide) ?_
    refine w_icmp_ge (tgt := 57) dX11_again_31 (by decide) (fun c_31 => absurd c_31 (by rw [(ql.ft f).1]; exact nI_ge (by omega) (by omega))) (fun c_31 => ?_)
    refine w_aload_n dX11_again_34 rfl rfl ?_
    refine w_gs (b := 30) q.1 dX11_again_35 fX11_23 (by decide) rfl rfl (by decide) ?_
    refine w_aload_n dX11_again_38 rfl rfl ?_
    refine w_gi q.1 dX11_again_39 fX11_184 rfl rfl (by decide) ?_
    refine w_iload_n dX11_again_42 rfl rfl ?_
    refine w_iadd dX11_again_43 ?_
    refine w_aload_n dX11_again_44 rfl rfl ?_
    refine w_gs (b := 37) q.1 dX11_again_45 fX11_48 (by decide) rfl rfl (by decide) ?_
    refine w_iload_n dX11_again_48 rfl rfl ?_
    refine w_iaload dX11_again_49 rfl (q.1.lt (by decide)) (vp_in_nI (show n < 40 by omega) (by decide)) ?_
    refine p_put f q dX11_again_50 (by rw [List.length_append, List.length_take]; omega) (by rw [q.2.1, nI_add, List.length_append, List.length_take, Nat.min_eq_left (by omega)]) (fun h1 f1 q1 => ?_)
    refine w_iinc (v := nI (n + 1)) dX11_again_51 rfl (nI_1 n) (by decide) ?_
    refine w_goto (tgt := 26) dX11_again_54 (by decide) ?_
    refine ih (n + 1) _ (by omega) f1 ?_ k
    rw [nI_clamp (by omega), (ql.ft f).2.2 n _ hg, List.append_assoc, ← take_s hg] at q1
    exact q1

set_option maxRecDepth 20000 in
set_option maxHeartbeats 4000000 in
/-- again() -/
theorem T_magain {X : Nat × (Nat → Int32)} {h : PH} {Q : Option Value → PH → Prop} {T L9 : List Int32} (ql : LR h L9) (q : RTp T.length h T) (k0 : ¬ T.length + L9.length + 1 ≤ 4000 → ∀ h', FT (sI h 25 0 0) h' → RTp T.length h' T → Q (some (.int (-1))) h') (k : T.length + L9.length + 1 ≤ 4000 → ∀ h', FT (sI h 25 0 0) h' → RTp (T.length + L9.length + 1) h' (T ++ L9 ++ [10]) → Q (some (.int (nI (T.length + L9.length + 1)))) h') : WP X mX11_again 0 0 0 (en 2 [.ref 25]) [] h Q := by
  refine w_aload_n dX11_again_0 rfl rfl ?_
  refine w_iconst dX11_again_1 (v := 0) (by decide) ?_
  refine p_thr q dX11_again_2 fX11_60 (fun f1 q1 => ?_)
  refine w_aload_n dX11_again_5 rfl rfl ?_
  refine w_gi q1.1 dX11_again_6 fX11_184 rfl rfl (by decide) ?_
  refine w_aload_n dX11_again_9 rfl rfl ?_
  refine w_gi q1.1 dX11_again_10 fX11_363 rfl rfl (by decide) ?_
  refine w_iadd dX11_again_13 ?_
  refine w_iconst dX11_again_14 (v := 1) (by decide) ?_
  refine w_iadd dX11_again_15 ?_
  refine w_sipush dX11_again_16 (v := 4000) (by decide) ?_
  refine w_icmp_le (tgt := 24) dX11_again_19 (by decide) (fun c_19 => ?_) (fun c_19 => ?_)
  · have hb := ql.2.1
    have hl := q.2.2.1
    rw [q1.2.1, ql.thr.1, nI_add, nI_1, show (4000 : Int32) = nI 4000 from rfl, nI_leI (by omega) (by decide)] at c_19
    refine w_iconst dX11_again_24 (v := 0) (by decide) ?_
    refine w_istore_n dX11_again_25 rfl (by decide) ?_
    exact L_mag c_19 ql.thr L9.length 0 _ (by omega) f1 (by rw [List.take_zero, List.append_nil]; exact q1) (k c_19)
  · have hb := ql.2.1
    have hl := q.2.2.1
    rw [q1.2.1, ql.thr.1, nI_add, nI_1, show (4000 : Int32) = nI 4000 from rfl, nI_leI (by omega) (by decide)] at c_19
    refine w_iconst dX11_again_22 (v := (-1)) (by decide) ?_
    refine w_iret dX11_again_23 (fun _ e => by cases e; rfl) ?_
    exact k0 c_19 _ f1 q1

set_option maxRecDepth 20000 in
set_option maxHeartbeats 4000000 in
/-- written(i) -/
theorem T_mwritten {X : Nat × (Nat → Int32)} {h : PH} {Q : Option Value → PH → Prop} {L9 : List Int32} {n : Nat} {T : List Int32} {i : Int32} (ql : LR h L9) (q : RTp n h T) (k : ∀ h', FT (sI h 25 0 0) h' → RTp n h' T → Q (some (.int (bA L9 i))) h') : WP X mX11_written 0 0 0 (en 2 [.ref 25, .int i]) [] h Q := by
  refine w_aload_n dX11_written_0 rfl rfl ?_
  refine w_iconst dX11_written_1 (v := 0) (by decide) ?_
  refine p_thr q dX11_written_2 fX11_60 (fun f1 q1 => ?_)
  refine w_iload_n dX11_written_5 rfl rfl ?_
  refine w_if_lt (tgt := 17) dX11_written_6 (by decide) (fun c_6 => ?_) (fun c_6 => ?_)
  · refine w_iconst dX11_written_17 (v := (-1)) (by decide) ?_
    refine w_goto (tgt := 27) dX11_written_18 (by decide) ?_
    refine w_iret dX11_written_27 (fun _ e => by cases e; rfl) ?_
    rw [bA, if_pos c_6] at k; exact k _ f1 q1
  · refine w_iload_n dX11_written_9 rfl rfl ?_
    refine w_aload_n dX11_written_10 rfl rfl ?_
    refine w_gi q1.1 dX11_written_11 fX11_363 rfl rfl (by decide) ?_
    refine w_icmp_lt (tgt := 21) dX11_written_14 (by decide) (fun c_14 => ?_) (fun c_14 => ?_)
    · obtain ⟨j, hj, rfl⟩ := nI_of c_6
      have hl := ql.2.1
      rw [ql.thr.1, nI_ltI (by omega) (by omega)] at c_14
      refine w_aload_n dX11_written_21 rfl rfl ?_
      refine w_gs (b := 37) q1.1 dX11_written_22 fX11_48 (by decide) rfl rfl (by decide) ?_
      refine w_iload_n dX11_written_25 rfl rfl ?_
      refine w_iaload dX11_written_26 rfl (q1.1.lt (by decide)) (vp_in_nI (show j < 40 by omega) (by decide)) ?_
      refine w_iret dX11_written_27 (fun _ e => by cases e; rfl) ?_
      rw [bA, if_neg c_6, nI_clamp (by omega), List.getElem?_eq_getElem c_14] at k
      rw [nI_clamp (by omega), ql.thr.2.2 j _ (List.getElem?_eq_getElem c_14)]; exact k _ f1 q1
    · obtain ⟨j, hj, rfl⟩ := nI_of c_6
      have hl := ql.2.1
      rw [ql.thr.1, nI_ltI (by omega) (by omega)] at c_14
      refine w_iconst dX11_written_17 (v := (-1)) (by decide) ?_
      refine w_goto (tgt := 27) dX11_written_18 (by decide) ?_
      refine w_iret dX11_written_27 (fun _ e => by cases e; rfl) ?_
      rw [bA, if_neg c_6, nI_clamp (by omega), List.getElem?_eq_none (by omega)] at k; exact k _ f1 q1

