/-! THE CLASS: keyboard, printer, memory -/
theorem bp_b (x : Int32) : x.toInt8.toInt32 &&& 255 = x &&& 255 := by
  apply Int32.toBitVec_inj.mp
  rw [Int32.toBitVec_and, Int32.toBitVec_and, Int8.toBitVec_toInt32, Int32.toBitVec_toInt8]
  apply BitVec.eq_of_getLsbD_eq
  intro i hi
  rw [BitVec.getLsbD_and, BitVec.getLsbD_and]
  have hm : ∀ i < 32, 8 ≤ i → (255 : Int32).toBitVec.getLsbD i = false := by decide
  rcases Nat.lt_or_ge i 8 with z | z
  · rw [BitVec.getLsbD_signExtend, BitVec.getLsbD_signExtend, if_pos z, if_pos hi]
    simp only [z, hi, decide_true, Bool.true_and]
  · rw [hm i hi z]; simp
theorem sP_s {σ : MS} {b : Int32} : (sP σ b).1 15 = σ.1 15 + 1 := rfl
theorem sP_o {σ : MS} {b : Int32} {j : Nat} (e : j ≠ 15) : (sP σ b).1 j = σ.1 j := va_up_ne _ _ e
theorem RC.kb {h : PH} {σ : MS} {a b : Int32} {ks : List Int32} (q : RC h σ) (hk : ∃ f, f < 100 ∧ a = nI f ∧ b = nI ks.length ∧ ks.length ≤ 100 ∧ ∀ (i : Nat) (v : Int32), ks[i]? = some v → hI h 19 ((f + i) % 100) = v) : RC (sI (sI h 18 1 a) 18 2 b) (sK σ ks) := by
  obtain ⟨q1, q2, q3, q4, q5, q6, q7, q8, q9, q10, q11⟩ := q
  obtain ⟨f, hf, ea, eb, hl, hv⟩ := hk
  exact ⟨q1.i.i, (q2.i (by decide)).i (by decide), ⟨f, hf, ea, eb, hl, hv⟩, q4, q5, q6, q7, q8, q9, q10, q11⟩
theorem RC.kb2 {h : PH} {σ : MS} {b v : Int32} {j : Nat} {ks : List Int32} (q : RC h σ) (hk : ∃ f, f < 100 ∧ hI h 18 1 = nI f ∧ b = nI ks.length ∧ ks.length ≤ 100 ∧ ∀ (i : Nat) (w : Int32), ks[i]? = some w → hI (sI h 19 j v) 19 ((f + i) % 100) = w) : RC (sI (sI h 19 j v) 18 2 b) (sK σ ks) := by
  obtain ⟨q1, q2, q3, q4, q5, q6, q7, q8, q9, q10, q11⟩ := q
  obtain ⟨f, hf, ea, eb, hl, hv⟩ := hk
  exact ⟨q1.i.i, (q2.i (by decide)).i (by decide), ⟨f, hf, ea, eb, hl, hv⟩, q4, q5, q6, q7, q8, q9, q10, q11⟩
theorem RC.prn {h : PH} {σ : MS} {t b v : Int32} {j : Nat} (q : RC h σ) (ht : t = σ.1 15 + 1) (hb : b = nI (σ.2.2.2.length + 1)) (hj : j = σ.2.2.2.length) (hl : σ.2.2.2.length < 4000) {w : Int32} (hv : v &&& 255 = w &&& 255) : RC (sI (sI (sI h 20 2 t) 21 j v) 20 1 b) (sP σ w) := by
  obtain ⟨q1, q2, q3, q4, q5, q6, q7, q8, q9, q10, q11⟩ := q
  have e : addP σ.2.2.2 (w &&& 255) = σ.2.2.2 ++ [w &&& 255] := if_pos hl
  refine ⟨q1.i.i.i, ((q2.i (by decide)).i (by decide)).i (by decide), q3, ⟨?_, ?_, fun i x hx => ?_⟩, fun k hk => ?_, fun k hk => ?_, ?_, ?_, ?_, ?_, ?_⟩
  · show b = nI (addP σ.2.2.2 (w &&& 255)).length; rw [e, hb, List.length_append]; rfl
  · show (addP σ.2.2.2 (w &&& 255)).length ≤ 4000; rw [e, List.length_append]; show _ + 1 ≤ 4000; omega
  · have hx : (addP σ.2.2.2 (w &&& 255))[i]? = some x := hx
    rw [e] at hx
    rw [rI_a (by decide)]
    by_cases c : i < σ.2.2.2.length
    · rw [List.getElem?_append_left c] at hx
      rw [rI_k (by omega), rI_a (by decide)]
      exact q4.2.2 i x hx
    · rw [List.getElem?_append_right (by omega)] at hx
      have e2 : i - σ.2.2.2.length = 0 := by
        cases e3 : i - σ.2.2.2.length with
        | zero => rfl
        | succ n => rw [e3] at hx; simp at hx
      rw [e2] at hx
      rw [show i = j by omega, rI_s, hv]
      simpa using hx
  · exact (q5 k hk).trans (sP_o (by omega)).symm
  · exact (q6 k hk).trans (sP_o (by omega)).symm
  · exact q7.trans (sP_o (by decide)).symm
  · exact q8.trans (sP_o (by decide)).symm
  · exact q9.trans (sP_o (by decide)).symm
  · exact q10.trans (sP_o (by decide)).symm
  · exact ht.trans sP_s.symm
theorem RC.prn0 {h : PH} {σ : MS} {t : Int32} (q : RC h σ) (ht : t = σ.1 15 + 1) (hl : ¬ σ.2.2.2.length < 4000) {w : Int32} : RC (sI h 20 2 t) (sP σ w) := by
  obtain ⟨q1, q2, q3, q4, q5, q6, q7, q8, q9, q10, q11⟩ := q
  have e : addP σ.2.2.2 (w &&& 255) = σ.2.2.2 := if_neg hl
  refine ⟨q1.i, q2.i (by decide), q3, ?_, fun k hk => ?_, fun k hk => ?_, ?_, ?_, ?_, ?_, ?_⟩
  · show PrC (sI h 20 2 t) (addP σ.2.2.2 (w &&& 255)); rw [e]; exact q4
  · exact (q5 k hk).trans (sP_o (by omega)).symm
  · exact (q6 k hk).trans (sP_o (by omega)).symm
  · exact q7.trans (sP_o (by decide)).symm
  · exact q8.trans (sP_o (by decide)).symm
  · exact q9.trans (sP_o (by decide)).symm
  · exact q10.trans (sP_o (by decide)).symm
  · exact ht.trans sP_s.symm
/-- KBSR, as it is read -/
def stS (σ : MS) : Int32 := if σ.2.2.1 = [] then σ.1 14 else 32768 ||| σ.1 14
def daS (σ : MS) : Int32 := match σ.2.2.1 with
  | [] => σ.1 13
  | k :: _ => k
theorem kb_w {h : PH} {σ : MS} (q : RC h σ) : hI h 18 2 ≤ 0 ↔ σ.2.2.1 = [] := by
  obtain ⟨f, hf, ea, eb, hl, hv⟩ := q.2.2.1
  rw [eb, nI_le0 (by omega)]
  exact List.length_eq_zero_iff
set_option maxRecDepth 20000 in
set_option maxHeartbeats 4000000 in
/-- Keyboard.status() -/
theorem T_status {X : Nat × (Nat → Int32)} {h : PH} {σ : MS} {Q : Option Value → PH → Prop} (hq : RC h σ) (k : Q (some (.int (stS σ))) h) : WP X mX2_status 0 0 0 (en 1 [.ref 18]) [] h Q := by
  refine w_aload_n dX2_status_0 rfl rfl ?_
  refine w_gi hq.1 dX2_status_1 fX2_19 rfl rfl (by decide) ?_
  refine w_if_le (tgt := 17) dX2_status_4 (by decide) (fun c_4 => ?_) (fun c_4 => ?_)
  · refine w_aload_n dX2_status_17 rfl rfl ?_
    refine w_gi hq.1 dX2_status_18 fX2_25 rfl rfl (by decide) ?_
    refine w_iret dX2_status_21 (fun _ e => by cases e; rfl) ?_
    rw [kb_w hq] at c_4
    have e : stS σ = hI h 18 4 := by rw [stS, if_pos c_4]; exact hq.2.2.2.2.2.2.2.2.2.1.symm
    rw [e] at k; exact k
  · refine w_ldc dX2_status_7 kX2_28 ?_
    refine w_aload_n dX2_status_9 rfl rfl ?_
    refine w_gi hq.1 dX2_status_10 fX2_25 rfl rfl (by decide) ?_
    refine w_ior dX2_status_13 ?_
    refine w_goto (tgt := 21) dX2_status_14 (by decide) ?_
    refine w_iret dX2_status_21 (fun _ e => by cases e; rfl) ?_
    rw [kb_w hq] at c_4
    have e : stS σ = 32768 ||| hI h 18 4 := by rw [stS, if_neg c_4, hq.2.2.2.2.2.2.2.2.2.1]
    rw [e] at k; exact k

set_option maxRecDepth 20000 in
set_option maxHeartbeats 4000000 in
/-- Keyboard.data() -/
theorem T_data {X : Nat × (Nat → Int32)} {h : PH} {σ : MS} {Q : Option Value → PH → Prop} (hq : RC h σ) (k : Q (some (.int (daS σ))) h) : WP X mX2_data 0 0 0 (en 1 [.ref 18]) [] h Q := by
  refine w_aload_n dX2_data_0 rfl rfl ?_
  refine w_gi hq.1 dX2_data_1 fX2_19 rfl rfl (by decide) ?_
  refine w_if_le (tgt := 19) dX2_data_4 (by decide) (fun c_4 => ?_) (fun c_4 => ?_)
  · refine w_aload_n dX2_data_19 rfl rfl ?_
    refine w_gi hq.1 dX2_data_20 fX2_22 rfl rfl (by decide) ?_
    refine w_iret dX2_data_23 (fun _ e => by cases e; rfl) ?_
    rw [kb_w hq] at c_4
    have e : daS σ = hI h 18 3 := by rw [daS, c_4]; exact hq.2.2.2.2.2.2.2.2.1.symm
    rw [e] at k; exact k
  · refine w_aload_n dX2_data_7 rfl rfl ?_
    refine w_gs (b := 19) hq.1 dX2_data_8 fX2_9 (by decide) rfl rfl (by decide) ?_
    refine w_aload_n dX2_data_11 rfl rfl ?_
    refine w_gi hq.1 dX2_data_12 fX2_15 rfl rfl (by decide) ?_
    refine w_iaload dX2_data_15 rfl (hq.1.lt (by decide)) (by obtain ⟨f, hf, ea, -⟩ := hq.2.2.1; rw [ea]; exact vp_in_nI hf (by decide)) ?_
    refine w_goto (tgt := 23) dX2_data_16 (by decide) ?_
    refine w_iret dX2_data_23 (fun _ e => by cases e; rfl) ?_
    rw [kb_w hq] at c_4
    obtain ⟨f, hf, ea, eb, hl, hv⟩ := hq.2.2.1
    have e : daS σ = hI h 19 (hI h 18 1).toNatClampNeg := by
      unfold daS
      cases e1 : σ.2.2.1 with
      | nil => exact absurd e1 c_4
      | cons a t => have := hv 0 a (by rw [e1]; rfl); rw [ea, nI_clamp (by omega), ← this, Nat.add_zero, Nat.mod_eq_of_lt hf]
    rw [e] at k; exact k

set_option maxRecDepth 20000 in
set_option maxHeartbeats 4000000 in
/-- Keyboard.drop() -/
theorem T_drop {X : Nat × (Nat → Int32)} {h : PH} {σ : MS} {Q : Option Value → PH → Prop} (hq : RC h σ) (k : ∀ h', Fm h h' → RC h' (sK σ σ.2.2.1.tail) → Q none h') : WP X mX2_drop 0 0 0 (en 1 [.ref 18]) [] h Q := by
  refine w_aload_n dX2_drop_0 rfl rfl ?_
  refine w_gi hq.1 dX2_drop_1 fX2_19 rfl rfl (by decide) ?_
  refine w_if_le (tgt := 30) dX2_drop_4 (by decide) (fun c_4 => ?_) (fun c_4 => ?_)
  · refine w_vret dX2_drop_30 ?_
    rw [kb_w hq] at c_4
    refine k h Fm.rf ?_
    have e : sK σ σ.2.2.1.tail = σ := by
      have : σ.2.2.1.tail = σ.2.2.1 := by rw [c_4]; rfl
      unfold sK; rw [this]
    rw [e]; exact hq
  · refine w_aload_n dX2_drop_7 rfl rfl ?_
    refine w_aload_n dX2_drop_8 rfl rfl ?_
    refine w_gi hq.1 dX2_drop_9 fX2_15 rfl rfl (by decide) ?_
    refine w_iconst dX2_drop_12 (v := 1) (by decide) ?_
    refine w_iadd dX2_drop_13 ?_
    refine w_bipush dX2_drop_14 (v := 100) (by decide) ?_
    refine w_irem dX2_drop_16 (by decide) ?_
    refine w_pi hq.1 dX2_drop_17 fX2_15 rfl rfl (by decide) ?_
    refine w_aload_n dX2_drop_20 rfl rfl ?_
    refine w_dup dX2_drop_21 rfl ?_
    refine w_gi hq.1.i dX2_drop_22 fX2_19 rfl rfl (by decide) ?_
    refine w_iconst dX2_drop_25 (v := 1) (by decide) ?_
    refine w_isub dX2_drop_26 ?_
    refine w_pi hq.1.i dX2_drop_27 fX2_19 rfl rfl (by decide) ?_
    refine w_vret dX2_drop_30 ?_
    rw [kb_w hq] at c_4
    obtain ⟨f, hf, ea, eb, hl, hv⟩ := hq.2.2.1
    refine k _ ((Fm.rf.i (by decide)).i (by decide)) (RC.kb hq ?_)
    refine ⟨(f + 1) % 100, Nat.mod_lt _ (by decide), ?_, ?_, ?_, fun i v hv2 => ?_⟩
    · rw [ea, nI_1, show (100 : Int32) = nI 100 from rfl, pk_rem (by omega) (by decide) (by decide)]
    · rw [rI_k (by decide), eb]
      cases e1 : σ.2.2.1 with
      | nil => exact absurd e1 c_4
      | cons a t => exact nI_pred _
    · rw [List.length_tail]; omega
    · rw [List.getElem?_tail] at hv2
      have := hv (i + 1) v hv2
      rw [← this]; congr 1; omega

set_option maxRecDepth 20000 in
set_option maxHeartbeats 4000000 in
/-- Keyboard.add(k) -/
theorem T_kadd {X : Nat × (Nat → Int32)} {b : Int32} {h : PH} {σ : MS} {Q : Option Value → PH → Prop} (hq : RC h σ) (k0 : 100 ≤ σ.2.2.1.length → Q (some (.int 0)) h) (k : σ.2.2.1.length < 100 → ∀ h', Fm h h' → RC h' (sK σ (σ.2.2.1 ++ [b &&& 255])) → Q (some (.int 1)) h') : WP X mX2_add 0 0 0 (en 2 [.ref 18, .int b]) [] h Q := by
  refine w_aload_n dX2_add_0 rfl rfl ?_
  refine w_gi hq.1 dX2_add_1 fX2_19 rfl rfl (by decide) ?_
  refine w_bipush dX2_add_4 (v := 100) (by decide) ?_
  refine w_icmp_lt (tgt := 11) dX2_add_6 (by decide) (fun c_6 => ?_) (fun c_6 => ?_)
  · refine w_aload_n dX2_add_11 rfl rfl ?_
    refine w_gs (b := 19) hq.1 dX2_add_12 fX2_9 (by decide) rfl rfl (by decide) ?_
    refine w_aload_n dX2_add_15 rfl rfl ?_
    refine w_gi hq.1 dX2_add_16 fX2_15 rfl rfl (by decide) ?_
    refine w_aload_n dX2_add_19 rfl rfl ?_
    refine w_gi hq.1 dX2_add_20 fX2_19 rfl rfl (by decide) ?_
    refine w_iadd dX2_add_23 ?_
    refine w_bipush dX2_add_24 (v := 100) (by decide) ?_
    refine w_irem dX2_add_26 (by decide) ?_
    refine w_iload_n dX2_add_27 rfl rfl ?_
    refine w_sipush dX2_add_28 (v := 255) (by decide) ?_
    refine w_iand dX2_add_31 ?_
    refine w_iastore dX2_add_32 rfl (hq.1.lt (by decide)) (by obtain ⟨f, hf, ea, eb, hl, hv⟩ := hq.2.2.1; rw [ea, eb, nI_add, show (100 : Int32) = nI 100 from rfl, pk_rem (by omega) (by decide) (by decide)]; exact vp_in_nI (Nat.mod_lt _ (by decide)) (by decide)) ?_
    refine w_aload_n dX2_add_33 rfl rfl ?_
    refine w_dup dX2_add_34 rfl ?_
    refine w_gi hq.1.i dX2_add_35 fX2_19 rfl rfl (by decide) ?_
    refine w_iconst dX2_add_38 (v := 1) (by decide) ?_
    refine w_iadd dX2_add_39 ?_
    refine w_pi hq.1.i dX2_add_40 fX2_19 rfl rfl (by decide) ?_
    refine w_iconst dX2_add_43 (v := 1) (by decide) ?_
    refine w_iret dX2_add_44 (fun _ e => by cases e; decide) ?_
    obtain ⟨f, hf, ea, eb, hl, hv⟩ := hq.2.2.1
    rw [eb, show (100 : Int32) = nI 100 from rfl, nI_ltI (by omega) (by decide)] at c_6
    refine k c_6 _ ((Fm.rf.i (by decide)).i (by decide)) (RC.kb2 hq ?_)
    refine ⟨f, hf, ea, ?_, ?_, fun i v hv2 => ?_⟩
    · rw [rI_a (by decide), eb, nI_1, List.length_append]; rfl
    · rw [List.length_append]; show _ + 1 ≤ 100; omega
    · rw [ea, eb, nI_add, show (100 : Int32) = nI 100 from rfl, pk_rem (by omega) (by decide) (by decide), nI_clamp (by omega)]
      by_cases e : i < σ.2.2.1.length
      · rw [List.getElem?_append_left e] at hv2
        rw [rI_k (by omega)]
        exact hv i v hv2
      · rw [List.getElem?_append_right (by omega)] at hv2
        have e2 : i - σ.2.2.1.length = 0 := by
          cases e3 : i - σ.2.2.1.length with
          | zero => rfl
          | succ n => rw [e3] at hv2; simp at hv2
        rw [e2] at hv2
        have e4 : i = σ.2.2.1.length := by omega
        rw [e4, rI_s]
        simpa using hv2
  · refine w_iconst dX2_add_9 (v := 0) (by decide) ?_
    refine w_iret dX2_add_10 (fun _ e => by cases e; decide) ?_
    obtain ⟨f, hf, ea, eb, hl, hv⟩ := hq.2.2.1
    rw [eb, show (100 : Int32) = nI 100 from rfl, nI_ltI (by omega) (by decide)] at c_6
    exact k0 (by omega)

set_option maxRecDepth 20000 in
set_option maxHeartbeats 4000000 in
/-- Keyboard.clear() -/
theorem T_clear {X : Nat × (Nat → Int32)} {h : PH} {σ : MS} {Q : Option Value → PH → Prop} (hq : RC h σ) (k : ∀ h', Fm h h' → RC h' (sG (sG (sK σ []) 13 0) 14 0) → Q none h') : WP X mX2_clear 0 0 0 (en 1 [.ref 18]) [] h Q := by
  refine w_aload_n dX2_clear_0 rfl rfl ?_
  refine w_iconst dX2_clear_1 (v := 0) (by decide) ?_
  refine w_pi hq.1 dX2_clear_2 fX2_15 rfl rfl (by decide) ?_
  refine w_aload_n dX2_clear_5 rfl rfl ?_
  refine w_iconst dX2_clear_6 (v := 0) (by decide) ?_
  refine w_pi hq.1.i dX2_clear_7 fX2_19 rfl rfl (by decide) ?_
  refine w_aload_n dX2_clear_10 rfl rfl ?_
  refine w_iconst dX2_clear_11 (v := 0) (by decide) ?_
  refine w_pi hq.1.i.i dX2_clear_12 fX2_22 rfl rfl (by decide) ?_
  refine w_aload_n dX2_clear_15 rfl rfl ?_
  refine w_iconst dX2_clear_16 (v := 0) (by decide) ?_
  refine w_pi hq.1.i.i.i dX2_clear_17 fX2_25 rfl rfl (by decide) ?_
  refine w_vret dX2_clear_20 ?_
  exact k _ ((((Fm.rf.i (by decide)).i (by decide)).i (by decide)).i (by decide)) (RC.b14 (RC.rl (RC.kb hq ⟨0, by decide, rfl, rfl, by decide, fun i v e => by simp at e⟩)))

theorem nar_b (b : Int32) : vp_nar .byte b.toInt8.toInt32 &&& 255 = b &&& 255 := by rw [pk_vb, bp_b]
set_option maxRecDepth 20000 in
set_option maxHeartbeats 4000000 in
/-- Printer.add(b) -/
theorem T_padd {X : Nat × (Nat → Int32)} {b : Int32} {h : PH} {σ : MS} {Q : Option Value → PH → Prop} (hq : RC h σ) (k : ∀ h', Fm h h' → RC h' (sP σ b) → Q none h') : WP X mX6_add 0 0 0 (en 2 [.ref 20, .int b]) [] h Q := by
  refine w_aload_n dX6_add_0 rfl rfl ?_
  refine w_dup dX6_add_1 rfl ?_
  refine w_gi hq.1 dX6_add_2 fX6_15 rfl rfl (by decide) ?_
  refine w_iconst dX6_add_5 (v := 1) (by decide) ?_
  refine w_iadd dX6_add_6 ?_
  refine w_pi hq.1 dX6_add_7 fX6_15 rfl rfl (by decide) ?_
  refine w_aload_n dX6_add_10 rfl rfl ?_
  refine w_gi hq.1.i dX6_add_11 fX6_19 rfl rfl (by decide) ?_
  refine w_sipush dX6_add_14 (v := 4000) (by decide) ?_
  refine w_icmp_ge (tgt := 41) dX6_add_17 (by decide) (fun c_17 => ?_) (fun c_17 => ?_)
  · refine w_vret dX6_add_41 ?_
    rw [show hI (sI h 20 2 (hI h 20 2 + 1)) 20 1 = hI h 20 1 from rI_k (by decide), hq.2.2.2.1.1, show (4000 : Int32) = nI 4000 from rfl, nI_leI (by decide) (by have := hq.2.2.2.1.2.1; omega)] at c_17
    exact k _ (Fm.rf.i (by decide)) (RC.prn0 hq (by rw [hq.2.2.2.2.2.2.2.2.2.2]) (by omega))
  · refine w_aload_n dX6_add_20 rfl rfl ?_
    refine w_gs (b := 21) hq.1.i dX6_add_21 fX6_9 (by decide) rfl rfl (by decide) ?_
    refine w_aload_n dX6_add_24 rfl rfl ?_
    refine w_gi hq.1.i dX6_add_25 fX6_19 rfl rfl (by decide) ?_
    refine w_iload_n dX6_add_28 rfl rfl ?_
    refine w_i2b dX6_add_29 ?_
    refine w_bastore dX6_add_30 rfl (hq.1.i.lt (by decide)) (by rw [show hI (sI h 20 2 (hI h 20 2 + 1)) 20 1 = hI h 20 1 from rI_k (by decide)]; rw [hq.2.2.2.1.1]; exact vp_in_nI (by rw [show hI (sI h 20 2 (hI h 20 2 + 1)) 20 1 = hI h 20 1 from rI_k (by decide), hq.2.2.2.1.1, show (4000 : Int32) = nI 4000 from rfl, nI_leI (by decide) (by have := hq.2.2.2.1.2.1; omega)] at c_17; show _ < 4000; omega) (by decide)) ?_
    refine w_aload_n dX6_add_31 rfl rfl ?_
    refine w_dup dX6_add_32 rfl ?_
    refine w_gi hq.1.i.i dX6_add_33 fX6_19 rfl rfl (by decide) ?_
    refine w_iconst dX6_add_36 (v := 1) (by decide) ?_
    refine w_iadd dX6_add_37 ?_
    refine w_pi hq.1.i.i dX6_add_38 fX6_19 rfl rfl (by decide) ?_
    refine w_vret dX6_add_41 ?_
    rw [show hI (sI h 20 2 (hI h 20 2 + 1)) 20 1 = hI h 20 1 from rI_k (by decide), hq.2.2.2.1.1, show (4000 : Int32) = nI 4000 from rfl, nI_leI (by decide) (by have := hq.2.2.2.1.2.1; omega)] at c_17
    refine k _ (((Fm.rf.i (by decide)).i (by decide)).i (by decide)) (RC.prn hq (by rw [hq.2.2.2.2.2.2.2.2.2.2]) ?_ ?_ (by omega) (nar_b b))
    · rw [rI_a (by decide), rI_k (by decide), hq.2.2.2.1.1, nI_1]
    · rw [rI_k (by decide), hq.2.2.2.1.1]; exact nI_clamp (by have := hq.2.2.2.1.2.1; omega)

