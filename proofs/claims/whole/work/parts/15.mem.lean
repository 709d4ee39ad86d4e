/-! THE CLASS: memory, in pages -/
theorem sh8c (x : Int32) : ((x >>> ((8 : Int32) &&& 31)) &&& 255).toNatClampNeg = ix x / 256 := by
  have := ix_lt x
  rw [sh8]; exact nI_clamp (by omega)
theorem an8c (x : Int32) : (x &&& 255).toNatClampNeg = ix x % 256 := by
  have := ix_lt x
  rw [and8]; exact nI_clamp (by omega)
theorem in8 (x : Int32) : vp_in ((x >>> ((8 : Int32) &&& 31)) &&& 255) 256 := by
  have := ix_lt x
  rw [sh8]; exact vp_in_nI (by omega) (by decide)
theorem in255 (x : Int32) : vp_in (x &&& 255) 256 := by
  rw [and8]; exact vp_in_nI (Nat.mod_lt _ (by decide)) (by decide)
theorem kd_pg {b : Nat} (h : 40 ≤ b) : kd b = 12 := by
  unfold kd; rw [List.getD_eq_getElem?_getD, List.getElem?_eq_none (by exact h)]; rfl
theorem ln_pg {b : Nat} (h : 40 ≤ b) : ln b = 256 := by
  unfold ln; rw [List.getD_eq_getElem?_getD, List.getElem?_eq_none (by exact h)]; rfl
theorem stR_lt : stR.all (fun q => decide (q.1 < 40)) = true := by decide +kernel
theorem st17 : stR.all (fun q => decide (q.1 ≠ 17)) = true := by decide +kernel
theorem st17n (p c : Nat) : (17, p, c) ∉ stR := fun h => by have := List.all_eq_true.mp st17 _ h; simp at this
theorem St.n {h : PH} {z : Nat} (S : St h) (hb : hn h + 1 < 1000000) : St (sN h z) := by
  refine ⟨Nat.le_trans S.1 (Nat.le_succ _), hb, fun q hq => ?_⟩
  have h1 : q.1 < 40 := by simpa using List.all_eq_true.mp stR_lt q hq
  show (if q.1 = hn h then none else hR h q.1 q.2.1) = _
  rw [if_neg (by have := S.1; omega)]
  exact S.2.2 q hq
theorem pg_i {h : PH} {σ : MS} (q : RC h σ) {p b : Nat} (hp : p < 256) (e : hR h 17 p = some b) : 40 ≤ b ∧ b < hn h := q.2.1.1 p b hp e
/-- one page more -/
theorem nn_set {f g : Nat → Option Nat} {p : Nat} (n : Nat) (hp : p < n) (h0 : f p = none) (h1 : (g p).isNone = false) (ho : ∀ j, j ≠ p → g j = f j) : ((List.range n).filter (fun j => (f j).isNone)).length = ((List.range n).filter (fun j => (g j).isNone)).length + 1 := by
  induction n with
  | zero => omega
  | succ n ih =>
    rw [List.range_succ, List.filter_append, List.filter_append, List.length_append, List.length_append]
    by_cases e : p = n
    · subst e
      have e1 : (List.range p).filter (fun j => (f j).isNone) = (List.range p).filter (fun j => (g j).isNone) := by
        apply List.filter_congr
        intro j hj
        have hj := List.mem_range.mp hj
        rw [ho j (by omega)]
      rw [e1]
      simp [h0, h1]
    · rw [ih (by omega)]
      have e2 : (f n).isNone = (g n).isNone := by rw [ho n (fun h => e h.symm)]
      simp only [List.filter_cons, List.filter_nil, e2]
      omega
set_option maxRecDepth 20000 in
set_option maxHeartbeats 4000000 in
/-- Memory.at(place) -/
theorem T_mat {X : Nat × (Nat → Int32)} {p : Int32} {h : PH} {σ : MS} {Q : Option Value → PH → Prop} (hq : RC h σ) (k : Q (some (.int (σ.2.1 (ix p)))) h) : WP X mX4_at 0 0 0 (en 3 [.ref 16, .int p]) [] h Q := by
  refine w_aload_n dX4_at_0 rfl rfl ?_
  refine w_gs (b := 17) hq.1 dX4_at_1 fX4_13 (by decide) rfl rfl (by decide) ?_
  refine w_iload_n dX4_at_4 rfl rfl ?_
  refine w_bipush dX4_at_5 (v := 8) (by decide) ?_
  refine w_ishr dX4_at_7 ?_
  refine w_sipush dX4_at_8 (v := 255) (by decide) ?_
  refine w_iand dX4_at_11 ?_
  refine w_aaload dX4_at_12 rfl (hq.1.lt (by decide)) (in8 p) ?_
  rw [sh8c]
  cases e_12 : hR h 17 (ix p / 256) with
  | none =>
    refine w_astore_nN dX4_at_13 rfl (by decide) ?_
    refine w_aload_nN dX4_at_14 rfl rfl ?_
    refine w_ifnonnullN dX4_at_15 ?_
    refine w_iconst dX4_at_18 (v := 0) (by decide) ?_
    refine w_goto (tgt := 29) dX4_at_19 (by decide) ?_
    refine w_iret dX4_at_29 (fun _ e => by cases e; rfl) ?_
    have e : σ.2.1 (ix p) = 0 := by rw [← hq.2.1.2.2.2 _ (ix_lt p)]; unfold memAt; rw [e_12]
    rw [e] at k; exact k
  | some b_12 =>
    refine w_astore_n dX4_at_13 rfl (by decide) ?_
    refine w_aload_n dX4_at_14 rfl rfl ?_
    refine w_ifnonnull (tgt := 22) dX4_at_15 (by decide) ?_
    refine w_aload_n dX4_at_22 rfl rfl ?_
    refine w_iload_n dX4_at_23 rfl rfl ?_
    refine w_sipush dX4_at_24 (v := 255) (by decide) ?_
    refine w_iand dX4_at_27 ?_
    refine w_iaload dX4_at_28 (kd_pg (pg_i hq (by have := ix_lt p; omega) e_12).1) (pg_i hq (by have := ix_lt p; omega) e_12).2 (by rw [ln_pg (pg_i hq (by have := ix_lt p; omega) e_12).1]; exact in255 p) ?_
    refine w_iret dX4_at_29 (fun _ e => by cases e; rfl) ?_
    have e : σ.2.1 (ix p) = hI h b_12 (p &&& 255).toNatClampNeg := by rw [← hq.2.1.2.2.2 _ (ix_lt p)]; unfold memAt; rw [e_12, an8c]
    rw [e] at k; exact k

theorem RC.mem {h : PH} {σ : MS} {b a : Nat} {v : Int32} (q : RC h σ) (ha : a < 65536) (e : hR h 17 (a / 256) = some b) : RC (sI h b (a % 256) v) (sM σ a v) := by
  have hb := pg_i q (by omega) e
  obtain ⟨q1, q2, ⟨f, q3⟩, q4, q5, q6, q7, q8, q9, q10, q11⟩ := q
  have hne : ∀ c, c < 40 → c ≠ b := fun c hc => by omega
  have rd : ∀ c j, c < 40 → hI (sI h b (a % 256) v) c j = hI h c j := fun c j hc => rI_a (hne c hc)
  refine ⟨q1.i, ⟨q2.1, q2.2.1, q2.2.2.1, fun p hp => ?_⟩, ⟨f, ?_⟩, ?_, fun k hk => (rd 14 k (by decide)).trans (q5 k hk), fun k hk => (rd 15 k (by decide)).trans (q6 k hk), (rd 13 5 (by decide)).trans q7, (rd 13 6 (by decide)).trans q8, (rd 18 3 (by decide)).trans q9, (rd 18 4 (by decide)).trans q10, (rd 20 2 (by decide)).trans q11⟩
  · show memAt (sI h b (a % 256) v) p = va_up σ.2.1 a v p
    rw [va_upv]
    unfold memAt
    show (match hR h 17 (p / 256) with | none => 0 | some b' => hI (sI h b (a % 256) v) b' (p % 256)) = _
    have hm := q2.2.2.2 p hp
    unfold memAt at hm
    by_cases e1 : p = a
    · subst e1; rw [if_pos rfl, e]; exact rI_s
    · rw [if_neg e1]
      cases e2 : hR h 17 (p / 256) with
      | none => rw [e2] at hm; exact hm
      | some b' =>
        rw [e2] at hm
        by_cases e3 : b' = b
        · have e4 := q2.2.1 (p / 256) (a / 256) b' (by omega) (by omega) e2 (by rw [e, e3])
          rw [e3]
          show hI (sI h b (a % 256) v) b (p % 256) = _
          rw [show hI (sI h b (a % 256) v) b (p % 256) = hI h b (p % 256) from rI_k (by omega), ← e3]
          exact hm
        · show hI (sI h b (a % 256) v) b' (p % 256) = _
          rw [rI_a e3]; exact hm
  · obtain ⟨z1, z2, z3, z4, z5⟩ := q3
    exact ⟨z1, (rd 18 1 (by decide)).trans z2, (rd 18 2 (by decide)).trans z3, z4, fun i w hw => (rd 19 _ (by decide)).trans (z5 i w hw)⟩
  · exact ⟨(rd 20 1 (by decide)).trans q4.1, q4.2.1, fun i w hw => by rw [rd 21 i (by decide)]; exact q4.2.2 i w hw⟩
theorem Fm.p {h h' : PH} (q : Fm h h') {a k : Nat} {v : Int32} (ha : 40 ≤ a) : Fm h (sI h' a k v) := ⟨q.1, q.2.1, q.2.2.1, q.2.2.2.1, fun b h1 h2 => by
  rw [← q.2.2.2.2.1 b h1 h2]; exact up2_o _ _ _ (by omega), q.2.2.2.2.2⟩
/-- a page is made -/
theorem RC.page {h : PH} {σ : MS} {p : Nat} (q : RC h σ) (hp : p < 256) (e : hR h 17 p = none) : RC (sR (sN h 256) 17 p (some (hn h))) σ ∧ Fm h (sR (sN h 256) 17 p (some (hn h))) := by
  obtain ⟨q1, q2, ⟨f, q3⟩, q4, q5, q6, q7, q8, q9, q10, q11⟩ := q
  have h40 := q1.1
  have hcnt : nn h = nn (sR (sN h 256) 17 p (some (hn h))) + 1 := by
    refine nn_set 256 hp e ?_ (fun j hj => ?_)
    · show ((up2 (hR (sN h 256)) 17 p (some (hn h))) 17 p).isNone = false
      rw [up2_s]; simp
    · show (up2 (hR (sN h 256)) 17 p (some (hn h))) 17 j = _
      rw [up2_s]
      show (if j = p then some (hn h) else hR (sN h 256) 17 j) = _
      rw [if_neg hj]
      show (if 17 = hn h then none else hR h 17 j) = _
      rw [if_neg (by omega)]
  have hlt : hn h + 1 < 1000000 := by have := q2.2.2.1; omega
  have rR17 : ∀ j, hR (sR (sN h 256) 17 p (some (hn h))) 17 j = if j = p then some (hn h) else hR h 17 j := fun j => by
    show (up2 (hR (sN h 256)) 17 p (some (hn h))) 17 j = _
    rw [up2_s]
    show (if j = p then some (hn h) else (if 17 = hn h then none else hR h 17 j)) = _
    rw [if_neg (show ¬ 17 = hn h by omega)]
  have rd : ∀ c j, c < 40 → hI (sR (sN h 256) 17 p (some (hn h))) c j = hI h c j := fun c j hc => by
    show (if c = hn h then 0 else hI h c j) = _
    rw [if_neg (by omega)]
  refine ⟨⟨(q1.n hlt).r (st17n p), ⟨fun x b hx hb => ?_, fun x y b hx hy hb hb' => ?_, ?_, fun a ha => ?_⟩, ⟨f, ?_⟩, ?_, fun k hk => (rd 14 k (by decide)).trans (q5 k hk), fun k hk => (rd 15 k (by decide)).trans (q6 k hk), (rd 13 5 (by decide)).trans q7, (rd 13 6 (by decide)).trans q8, (rd 18 3 (by decide)).trans q9, (rd 18 4 (by decide)).trans q10, (rd 20 2 (by decide)).trans q11⟩, ?_⟩
  · rw [rR17] at hb
    show 40 ≤ b ∧ b < hn h + 1
    by_cases c : x = p
    · rw [if_pos c] at hb; cases hb; omega
    · rw [if_neg c] at hb; have := q2.1 x b hx hb; omega
  · rw [rR17] at hb hb'
    by_cases c : x = p
    · by_cases c2 : y = p
      · omega
      · rw [if_pos c] at hb; rw [if_neg c2] at hb'; cases hb; have := q2.1 y _ hy hb'; omega
    · by_cases c2 : y = p
      · rw [if_neg c] at hb; rw [if_pos c2] at hb'; cases hb'; have := q2.1 x _ hx hb; omega
      · rw [if_neg c] at hb; rw [if_neg c2] at hb'; exact q2.2.1 x y b hx hy hb hb'
  · show hn h + 1 + nn (sR (sN h 256) 17 p (some (hn h))) = 296
    have := q2.2.2.1; omega
  · rw [← q2.2.2.2 a ha]
    unfold memAt
    rw [rR17]
    by_cases c : a / 256 = p
    · rw [if_pos c, c, e]
      show (if hn h = hn h then (0 : Int32) else hI h (hn h) (a % 256)) = 0
      rw [if_pos rfl]
    · rw [if_neg c]
      cases e2 : hR h 17 (a / 256) with
      | none => rfl
      | some b =>
        show (if b = hn h then (0 : Int32) else hI h b (a % 256)) = hI h b (a % 256)
        rw [if_neg (by have := q2.1 (a / 256) b (by omega) e2; omega)]
  · obtain ⟨z1, z2, z3, z4, z5⟩ := q3
    exact ⟨z1, (rd 18 1 (by decide)).trans z2, (rd 18 2 (by decide)).trans z3, z4, fun i w hw => (rd 19 _ (by decide)).trans (z5 i w hw)⟩
  · exact ⟨(rd 20 1 (by decide)).trans q4.1, q4.2.1, fun i w hw => by rw [rd 21 i (by decide)]; exact q4.2.2 i w hw⟩
  · refine ⟨Nat.le_succ _, ?_, ?_, fun a ha h17 => ?_, fun a ha _ => funext (fun j => rd a j ha), fun a ha => ?_⟩
    · show hc h + 1 + hn h = hc h + (hn h + 1); omega
    · show hs h + 256 + 256 * hn h = hs h + 256 * (hn h + 1); omega
    · show up2 (hR (sN h 256)) 17 p (some (hn h)) a = _
      rw [up2_o _ _ _ h17]
      funext j
      show (if a = hn h then none else hR h a j) = _
      rw [if_neg (by omega)]
    · funext j
      show (if a = hn h then 0 else hL h a j) = _
      rw [if_neg (by omega)]
set_option maxRecDepth 20000 in
set_option maxHeartbeats 4000000 in
/-- Memory.keep(place, v) -/
theorem T_keep {X : Nat × (Nat → Int32)} {p v : Int32} {h : PH} {σ : MS} {Q : Option Value → PH → Prop} (hq : RC h σ) (k : ∀ h', Fm h h' → RC h' (sM σ (ix p) (v &&& 65535)) → Q none h') : WP X mX4_keep 0 0 0 (en 4 [.ref 16, .int p, .int v]) [] h Q := by
  refine w_aload_n dX4_keep_0 rfl rfl ?_
  refine w_gs (b := 17) hq.1 dX4_keep_1 fX4_13 (by decide) rfl rfl (by decide) ?_
  refine w_iload_n dX4_keep_4 rfl rfl ?_
  refine w_bipush dX4_keep_5 (v := 8) (by decide) ?_
  refine w_ishr dX4_keep_7 ?_
  refine w_sipush dX4_keep_8 (v := 255) (by decide) ?_
  refine w_iand dX4_keep_11 ?_
  refine w_aaload dX4_keep_12 rfl (hq.1.lt (by decide)) (in8 p) ?_
  have hix := ix_lt p
  have h40 := hq.1.1
  have hlt : hn h + 1 < 1000000 := by have := hq.2.1.2.2.1; omega
  rw [sh8c]
  cases e_12 : hR h 17 (ix p / 256) with
  | none =>
    refine w_astore_nN dX4_keep_13 rfl (by decide) ?_
    refine w_aload_nN dX4_keep_14 rfl rfl ?_
    refine w_ifnonnullN dX4_keep_15 ?_
    refine w_sipush dX4_keep_18 (v := 256) (by decide) ?_
    refine w_newI dX4_keep_21 ac_int (N := 256) (kd_pg h40) (ln_pg h40) (by decide) (by decide) (by decide) (by omega) ?_
    refine w_astore_n dX4_keep_23 rfl (by decide) ?_
    refine w_aload_n dX4_keep_24 rfl rfl ?_
    refine w_gs (b := 17) (hq.1.n hlt) dX4_keep_25 fX4_13 (by decide) rfl rfl (by decide) ?_
    refine w_iload_n dX4_keep_28 rfl rfl ?_
    refine w_bipush dX4_keep_29 (v := 8) (by decide) ?_
    refine w_ishr dX4_keep_31 ?_
    refine w_sipush dX4_keep_32 (v := 255) (by decide) ?_
    refine w_iand dX4_keep_35 ?_
    refine w_aload_n dX4_keep_36 rfl rfl ?_
    refine w_aastore dX4_keep_37 rfl ((hq.1.n hlt).lt (by decide)) (kd_pg h40) (Nat.lt_succ_self _) (in8 p) ?_
    refine w_aload_n dX4_keep_38 rfl rfl ?_
    refine w_iload_n dX4_keep_39 rfl rfl ?_
    refine w_sipush dX4_keep_40 (v := 255) (by decide) ?_
    refine w_iand dX4_keep_43 ?_
    refine w_iload_n dX4_keep_44 rfl rfl ?_
    refine w_ldc dX4_keep_45 kX4_17 ?_
    refine w_iand dX4_keep_47 ?_
    refine w_iastore dX4_keep_48 (kd_pg h40) (Nat.lt_succ_self _) (by rw [ln_pg h40]; exact in255 p) ?_
    refine w_vret dX4_keep_49 ?_
    rw [sh8c, an8c]
    obtain ⟨hR2, hF2⟩ := RC.page hq (by omega) e_12
    exact k _ (hF2.p h40) (RC.mem hR2 hix (by show (up2 (hR (sN h 256)) 17 (ix p / 256) (some (hn h))) 17 (ix p / 256) = _; rw [up2_s]; simp))
  | some b_12 =>
    refine w_astore_n dX4_keep_13 rfl (by decide) ?_
    refine w_aload_n dX4_keep_14 rfl rfl ?_
    refine w_ifnonnull (tgt := 38) dX4_keep_15 (by decide) ?_
    refine w_aload_n dX4_keep_38 rfl rfl ?_
    refine w_iload_n dX4_keep_39 rfl rfl ?_
    refine w_sipush dX4_keep_40 (v := 255) (by decide) ?_
    refine w_iand dX4_keep_43 ?_
    refine w_iload_n dX4_keep_44 rfl rfl ?_
    refine w_ldc dX4_keep_45 kX4_17 ?_
    refine w_iand dX4_keep_47 ?_
    refine w_iastore dX4_keep_48 (kd_pg (pg_i hq (by omega) e_12).1) (pg_i hq (by omega) e_12).2 (by rw [ln_pg (pg_i hq (by omega) e_12).1]; exact in255 p) ?_
    refine w_vret dX4_keep_49 ?_
    rw [an8c]
    exact k _ (Fm.rf.p (pg_i hq (by omega) e_12).1) (RC.mem hq hix e_12)

