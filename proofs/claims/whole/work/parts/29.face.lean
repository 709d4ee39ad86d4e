/-! THE CLASS: the faces of its machine -/
set_option maxRecDepth 20000 in
set_option maxHeartbeats 4000000 in
/-- state() -/
theorem T_cstate {X : Nat × (Nat → Int32)} {h : PH} {σ : MS} {Q : Option Value → PH → Prop} (q : RC h σ) (k : Q (some (.int (σ.1 12))) h) : WP X mX10_state 0 0 0 (en 1 [.ref 0]) [] h Q := by
  refine w_aload_n dX10_state_0 rfl rfl ?_
  refine w_gs (b := 13) q.1 dX10_state_1 fX10_30 (by decide) rfl rfl (by decide) ?_
  refine x_get q.1 dX10_state_4 fX10_118 (rcS q) rfl rfl (by decide) ?_
  refine w_iret dX10_state_7 (fun _ e => by cases e; rfl) ?_
  exact k

set_option maxRecDepth 20000 in
set_option maxHeartbeats 4000000 in
/-- printed() -/
theorem T_cprinted {X : Nat × (Nat → Int32)} {h : PH} {σ : MS} {Q : Option Value → PH → Prop} (q : RC h σ) (k : Q (some (.int (σ.1 15))) h) : WP X mX10_printed 0 0 0 (en 1 [.ref 0]) [] h Q := by
  refine w_aload_n dX10_printed_0 rfl rfl ?_
  refine w_gs (b := 13) q.1 dX10_printed_1 fX10_30 (by decide) rfl rfl (by decide) ?_
  refine w_gs (b := 20) q.1 dX10_printed_4 fX10_153 (by decide) rfl rfl (by decide) ?_
  refine x_get q.1 dX10_printed_7 fX10_157 (rcT q) rfl rfl (by decide) ?_
  refine w_iret dX10_printed_10 (fun _ e => by cases e; rfl) ?_
  exact k

set_option maxRecDepth 20000 in
set_option maxHeartbeats 4000000 in
/-- peek(place) -/
theorem T_cpeek {X : Nat × (Nat → Int32)} {h : PH} {σ : MS} {Q : Option Value → PH → Prop} {p : Int32} (q : RC h σ) (k : Q (some (.int (lookS σ (p &&& 65535)))) h) : WP X mX10_peek 2 43 0 (en 2 [.ref 0, .int p]) [] h Q := by
  refine w_aload_n dX10_peek_0 rfl rfl ?_
  refine w_gs (b := 13) q.1 dX10_peek_1 fX10_30 (by decide) rfl rfl (by decide) ?_
  refine w_iload_n dX10_peek_4 rfl rfl ?_
  refine w_ldc dX10_peek_5 kX10_127 ?_
  refine w_iand dX10_peek_7 ?_
  refine w_v1 (d2 := 1) (L2 := 22) dX10_peek_8 vX10_128 rfl (q.1.lt (by decide)) rfl (by decide) (Nat.le_of_ble_eq_true rfl) (by decide) (by decide) ?_
  refine T_look q ?_
  refine k_i rfl ?_
  refine w_iret dX10_peek_11 (fun _ e => by cases e; rfl) ?_
  exact k

set_option maxRecDepth 20000 in
set_option maxHeartbeats 4000000 in
/-- poke(place, v) -/
theorem T_cpoke {X : Nat × (Nat → Int32)} {h0 h : PH} {σ : MS} {Q : Option Value → PH → Prop} {p v : Int32} (f : Fm h0 h) (q : RC h σ) (k : ∀ h', Fm h0 h' → RC h' (sM σ (ix p) (v &&& 65535)) → Q none h') : WP X mX10_poke 1 23 0 (en 3 [.ref 0, .int p, .int v]) [] h Q := by
  refine w_aload_n dX10_poke_0 rfl rfl ?_
  refine w_gs (b := 13) q.1 dX10_poke_1 fX10_30 (by decide) rfl rfl (by decide) ?_
  refine w_gs (b := 16) q.1 dX10_poke_4 fX10_131 (by decide) rfl rfl (by decide) ?_
  refine w_iload_n dX10_poke_7 rfl rfl ?_
  refine w_iload_n dX10_poke_8 rfl rfl ?_
  refine w_v2 (d2 := 0) (L2 := 0) dX10_poke_9 vX10_135 rfl (q.1.lt (by decide)) rfl rfl (by decide) (Nat.le_of_ble_eq_true rfl) (by decide) (by decide) ?_
  refine T_keep2 f q (fun h1 f1 q1 => ?_)
  refine k_v rfl ?_
  refine w_vret dX10_poke_12 ?_
  exact k _ f1 q1

set_option maxRecDepth 20000 in
set_option maxHeartbeats 4000000 in
/-- key(k) -/
theorem T_ckey {X : Nat × (Nat → Int32)} {h0 h : PH} {σ : MS} {Q : Option Value → PH → Prop} {b : Int32} (f : Fm h0 h) (q : RC h σ) (k : ∀ h', Fm h0 h' → RC h' (typS σ b) → Q (some (.int (if σ.2.2.1.length < 100 then 1 else 0))) h') : WP X mX10_key 2 42 0 (en 2 [.ref 0, .int b]) [] h Q := by
  refine w_aload_n dX10_key_0 rfl rfl ?_
  refine w_gs (b := 13) q.1 dX10_key_1 fX10_30 (by decide) rfl rfl (by decide) ?_
  refine w_iload_n dX10_key_4 rfl rfl ?_
  refine w_v1 (d2 := 1) (L2 := 21) dX10_key_5 vX10_106 rfl (q.1.lt (by decide)) rfl (by decide) (Nat.le_of_ble_eq_true rfl) (by decide) (by decide) ?_
  refine T_typed f q (fun h1 f1 q1 => ?_)
  refine k_i rfl ?_
  refine w_iret dX10_key_8 (fun _ e => by cases e; split <;> decide) ?_
  exact k _ f1 q1

set_option maxRecDepth 20000 in
set_option maxHeartbeats 4000000 in
/-- run(steps) -/
theorem T_crun {X : Nat × (Nat → Int32)} {h0 h : PH} {σ : MS} {Q : Option Value → PH → Prop} {mo : Nat} (hmo : mo ≤ 20000) (f : Fm h0 h) (q : RC h σ) (k : ∀ h', Fm h0 h' → RC h' (goE (goS mo σ 0)) → Q (some (.int (nI (goS mo σ 0).2))) h') : WP X mX10_run 7 157 0 (en 2 [.ref 0, .int (nI mo)]) [] h Q := by
  refine w_iload_n dX10_run_0 rfl rfl ?_
  refine w_if_lt (tgt := 11) dX10_run_1 (by decide) (fun c_1 => absurd c_1 (nI_pos (n := mo) (by omega))) (fun c_1 => ?_)
  refine w_iload_n dX10_run_4 rfl rfl ?_
  refine w_sipush dX10_run_5 (v := 20000) (by decide) ?_
  refine w_icmp_le (tgt := 21) dX10_run_8 (by decide) (fun c_8 => ?_) (fun c_8 => absurd c_8 (not_not_intro (nI_le (b := 20000) hmo (by decide))))
  refine w_aload_n dX10_run_21 rfl rfl ?_
  refine w_gs (b := 13) q.1 dX10_run_22 fX10_30 (by decide) rfl rfl (by decide) ?_
  refine w_iload_n dX10_run_25 rfl rfl ?_
  refine w_v1 (d2 := 6) (L2 := 134) dX10_run_26 vX10_114 rfl (q.1.lt (by decide)) rfl (by decide) (Nat.le_of_ble_eq_true rfl) (by decide) (by decide) ?_
  refine T_go hmo f q (fun h1 f1 q1 => ?_)
  refine k_i rfl ?_
  refine w_iret dX10_run_29 (fun _ e => by cases e; rfl) ?_
  exact k _ f1 q1

set_option maxRecDepth 20000 in
set_option maxHeartbeats 4000000 in
/-- run(steps), refused -/
theorem T_crunX {X : Nat × (Nat → Int32)} {h : PH} {σ : MS} {Q : Option Value → PH → Prop} {i : Int32} (hb : i < 0 ∨ ¬ i ≤ 20000) (k : Q (some (.retAddr 11)) h) : WP X mX10_run 7 157 0 (en 2 [.ref 0, .int i]) [] h Q := by
  refine w_iload_n dX10_run_0 rfl rfl ?_
  refine w_if_lt (tgt := 11) dX10_run_1 (by decide) (fun c_1 => ?_) (fun c_1 => ?_)
  · refine w_throw ?_
    exact k
  · refine w_iload_n dX10_run_4 rfl rfl ?_
    refine w_sipush dX10_run_5 (v := 20000) (by decide) ?_
    refine w_icmp_le (tgt := 21) dX10_run_8 (by decide) (fun c_8 => absurd c_8 (hb.resolve_left c_1)) (fun c_8 => ?_)
    refine w_throw ?_
    exact k

set_option maxRecDepth 20000 in
set_option maxHeartbeats 4000000 in
/-- register(r) -/
theorem T_creg {X : Nat × (Nat → Int32)} {h : PH} {σ : MS} {Q : Option Value → PH → Prop} {j : Nat} (hj : j ≤ 11) (q : RC h σ) (k : Q (some (.int (σ.1 j))) h) : WP X mX10_register 1 20 0 (en 2 [.ref 0, .int (nI j)]) [] h Q := by
  refine w_iload_n dX10_register_0 rfl rfl ?_
  refine w_if_lt (tgt := 10) dX10_register_1 (by decide) (fun c_1 => absurd c_1 (nI_pos (n := j) (by omega))) (fun c_1 => ?_)
  refine w_iload_n dX10_register_4 rfl rfl ?_
  refine w_bipush dX10_register_5 (v := 12) (by decide) ?_
  refine w_icmp_lt (tgt := 20) dX10_register_7 (by decide) (fun c_7 => ?_) (fun c_7 => absurd c_7 (not_not_intro (nI_lt (b := 12) (by omega) (by decide))))
  refine w_aload_n dX10_register_20 rfl rfl ?_
  refine w_gs (b := 13) q.1 dX10_register_21 fX10_30 (by decide) rfl rfl (by decide) ?_
  refine w_gs (b := 14) q.1 dX10_register_24 fX10_123 (by decide) rfl rfl (by decide) ?_
  refine w_iload_n dX10_register_27 rfl rfl ?_
  refine r_get q dX10_register_28 (nI_clamp (by omega)) (vp_in_nI (by omega) (by decide)) ?_
  refine w_iret dX10_register_29 (fun _ e => by cases e; rfl) ?_
  exact k

set_option maxRecDepth 20000 in
set_option maxHeartbeats 4000000 in
/-- register(r), refused -/
theorem T_cregX {X : Nat × (Nat → Int32)} {h : PH} {σ : MS} {Q : Option Value → PH → Prop} {i : Int32} (hb : i < 0 ∨ ¬ i < 12) (k : Q (some (.retAddr 10)) h) : WP X mX10_register 1 20 0 (en 2 [.ref 0, .int i]) [] h Q := by
  refine w_iload_n dX10_register_0 rfl rfl ?_
  refine w_if_lt (tgt := 10) dX10_register_1 (by decide) (fun c_1 => ?_) (fun c_1 => ?_)
  · refine w_throw ?_
    exact k
  · refine w_iload_n dX10_register_4 rfl rfl ?_
    refine w_bipush dX10_register_5 (v := 12) (by decide) ?_
    refine w_icmp_lt (tgt := 20) dX10_register_7 (by decide) (fun c_7 => absurd c_7 (hb.resolve_left c_1)) (fun c_7 => ?_)
    refine w_throw ?_
    exact k

set_option maxRecDepth 20000 in
set_option maxHeartbeats 4000000 in
/-- set(r, v) -/
theorem T_cset {X : Nat × (Nat → Int32)} {h0 h : PH} {σ : MS} {Q : Option Value → PH → Prop} {j : Nat} {v : Int32} (hj : j ≤ 11) (f : Fm h0 h) (q : RC h σ) (k : ∀ h', Fm h0 h' → RC h' (sG σ j (v &&& (if j = 9 then 34567 else 65535))) → Q (some (.int 1)) h') : WP X mX10_set 0 0 0 (en 3 [.ref 0, .int (nI j), .int v]) [] h Q := by
  refine w_iload_n dX10_set_0 rfl rfl ?_
  refine w_if_lt (tgt := 10) dX10_set_1 (by decide) (fun c_1 => absurd c_1 (nI_pos (n := j) (by omega))) (fun c_1 => ?_)
  refine w_iload_n dX10_set_4 rfl rfl ?_
  refine w_bipush dX10_set_5 (v := 12) (by decide) ?_
  refine w_icmp_lt (tgt := 12) dX10_set_7 (by decide) (fun c_7 => ?_) (fun c_7 => absurd c_7 (not_not_intro (nI_lt (b := 12) (by omega) (by decide))))
  refine w_aload_n dX10_set_12 rfl rfl ?_
  refine w_gs (b := 13) q.1 dX10_set_13 fX10_30 (by decide) rfl rfl (by decide) ?_
  refine w_gs (b := 14) q.1 dX10_set_16 fX10_123 (by decide) rfl rfl (by decide) ?_
  refine w_iload_n dX10_set_19 rfl rfl ?_
  refine w_iload_n dX10_set_20 rfl rfl ?_
  refine w_iload_n dX10_set_21 rfl rfl ?_
  refine w_bipush dX10_set_22 (v := 9) (by decide) ?_
  refine w_icmp_ne (tgt := 32) dX10_set_24 (by decide) (fun c_24 => ?_) (fun c_24 => ?_)
  · rw [show (9 : Int32) = nI 9 from rfl, nI_eq (by omega) (by decide)] at c_24
    refine w_ldc dX10_set_32 kX10_127 ?_
    refine w_iand dX10_set_34 ?_
    refine r_put f q dX10_set_35 (nI_clamp (by omega)) (vp_in_nI (by omega) (by decide)) (fun h1 f1 q1 => ?_)
    refine w_iconst dX10_set_36 (v := 1) (by decide) ?_
    refine w_iret dX10_set_37 (fun _ e => by cases e; decide) ?_
    rw [if_neg c_24] at k; exact k _ f1 q1
  · rw [show (9 : Int32) = nI 9 from rfl, nI_eq (by omega) (by decide)] at c_24
    refine w_ldc dX10_set_27 kX10_126 ?_
    refine w_goto (tgt := 34) dX10_set_29 (by decide) ?_
    refine w_iand dX10_set_34 ?_
    refine r_put f q dX10_set_35 (nI_clamp (by omega)) (vp_in_nI (by omega) (by decide)) (fun h2 f2 q2 => ?_)
    refine w_iconst dX10_set_36 (v := 1) (by decide) ?_
    refine w_iret dX10_set_37 (fun _ e => by cases e; decide) ?_
    rw [if_pos c_24] at k; exact k _ f2 q2

set_option maxRecDepth 20000 in
set_option maxHeartbeats 4000000 in
/-- set(r, v), refused -/
theorem T_csetX {X : Nat × (Nat → Int32)} {h : PH} {σ : MS} {Q : Option Value → PH → Prop} {i v : Int32} (hb : i < 0 ∨ ¬ i < 12) (k : Q (some (.int 0)) h) : WP X mX10_set 0 0 0 (en 3 [.ref 0, .int i, .int v]) [] h Q := by
  refine w_iload_n dX10_set_0 rfl rfl ?_
  refine w_if_lt (tgt := 10) dX10_set_1 (by decide) (fun c_1 => ?_) (fun c_1 => ?_)
  · refine w_iconst dX10_set_10 (v := 0) (by decide) ?_
    refine w_iret dX10_set_11 (fun _ e => by cases e; decide) ?_
    exact k
  · refine w_iload_n dX10_set_4 rfl rfl ?_
    refine w_bipush dX10_set_5 (v := 12) (by decide) ?_
    refine w_icmp_lt (tgt := 12) dX10_set_7 (by decide) (fun c_7 => absurd c_7 (hb.resolve_left c_1)) (fun c_7 => ?_)
    refine w_iconst dX10_set_10 (v := 0) (by decide) ?_
    refine w_iret dX10_set_11 (fun _ e => by cases e; decide) ?_
    exact k

set_option maxRecDepth 20000 in
set_option maxHeartbeats 4000000 in
/-- byteAt(i) of the printer -/
theorem T_pat {X : Nat × (Nat → Int32)} {h : PH} {σ : MS} {Q : Option Value → PH → Prop} {i : Int32} (q : RC h σ) (k : Q (some (.int (if i < 0 then -1 else (σ.2.2.2[i.toNatClampNeg]?).getD (-1)))) h) : WP X mX6_byteAt 0 0 0 (en 2 [.ref 20, .int i]) [] h Q := by
  refine w_iload_n dX6_byteAt_0 rfl rfl ?_
  refine w_if_lt (tgt := 25) dX6_byteAt_1 (by decide) (fun c_1 => ?_) (fun c_1 => ?_)
  · refine w_iconst dX6_byteAt_25 (v := (-1)) (by decide) ?_
    refine w_iret dX6_byteAt_26 (fun _ e => by cases e; rfl) ?_
    rw [if_pos c_1] at k; exact k
  · refine w_iload_n dX6_byteAt_4 rfl rfl ?_
    refine w_aload_n dX6_byteAt_5 rfl rfl ?_
    refine w_gi q.1 dX6_byteAt_6 fX6_19 rfl rfl (by decide) ?_
    refine w_icmp_ge (tgt := 25) dX6_byteAt_9 (by decide) (fun c_9 => ?_) (fun c_9 => ?_)
    · obtain ⟨j, hj, rfl⟩ := nI_of c_1
      have hl := q.2.2.2.1.2.1
      rw [q.2.2.2.1.1, nI_leI (by omega) (by omega)] at c_9
      refine w_iconst dX6_byteAt_25 (v := (-1)) (by decide) ?_
      refine w_iret dX6_byteAt_26 (fun _ e => by cases e; rfl) ?_
      rw [if_neg c_1, nI_clamp (by omega), List.getElem?_eq_none (by omega)] at k; exact k
    · obtain ⟨j, hj, rfl⟩ := nI_of c_1
      have hl := q.2.2.2.1.2.1
      rw [q.2.2.2.1.1, nI_leI (by omega) (by omega)] at c_9
      refine w_aload_n dX6_byteAt_12 rfl rfl ?_
      refine w_gs (b := 21) q.1 dX6_byteAt_13 fX6_9 (by decide) rfl rfl (by decide) ?_
      refine w_iload_n dX6_byteAt_16 rfl rfl ?_
      refine w_baload dX6_byteAt_17 rfl (q.1.lt (by decide)) (vp_in_nI (show j < 4000 by omega) (by decide)) ?_
      refine w_sipush dX6_byteAt_18 (v := 255) (by decide) ?_
      refine w_iand dX6_byteAt_21 ?_
      refine w_goto (tgt := 26) dX6_byteAt_22 (by decide) ?_
      refine w_iret dX6_byteAt_26 (fun _ e => by cases e; rfl) ?_
      rw [if_neg c_1, nI_clamp (by omega), List.getElem?_eq_getElem (by omega)] at k
      rw [nI_clamp (by omega), q.2.2.2.1.2.2 j _ (List.getElem?_eq_getElem (by omega))]; exact k

set_option maxRecDepth 20000 in
set_option maxHeartbeats 4000000 in
/-- print(i) -/
theorem T_cprint {X : Nat × (Nat → Int32)} {h : PH} {σ : MS} {Q : Option Value → PH → Prop} {i : Int32} (q : RC h σ) (k : Q (some (.int (if i < 0 then -1 else (σ.2.2.2[i.toNatClampNeg]?).getD (-1)))) h) : WP X mX10_print 1 21 0 (en 2 [.ref 0, .int i]) [] h Q := by
  refine w_aload_n dX10_print_0 rfl rfl ?_
  refine w_gs (b := 13) q.1 dX10_print_1 fX10_30 (by decide) rfl rfl (by decide) ?_
  refine w_gs (b := 20) q.1 dX10_print_4 fX10_153 (by decide) rfl rfl (by decide) ?_
  refine w_iload_n dX10_print_7 rfl rfl ?_
  refine w_v1 (d2 := 0) (L2 := 0) dX10_print_8 vX10_162 rfl (q.1.lt (by decide)) rfl (by decide) (Nat.le_of_ble_eq_true rfl) (by decide) (by decide) ?_
  refine T_pat q ?_
  refine k_i rfl ?_
  refine w_iret dX10_print_11 (fun _ e => by cases e; rfl) ?_
  exact k

set_option maxRecDepth 20000 in
set_option maxHeartbeats 4000000 in
/-- count(what) -/
theorem T_ccnt {X : Nat × (Nat → Int32)} {h : PH} {σ : MS} {Q : Option Value → PH → Prop} {j : Nat} (hj : j ≤ 4) (q : RC h σ) (k : Q (some (.int (if j < 4 then σ.1 (16 + j) else nI σ.2.2.1.length))) h) : WP X mX10_count 1 20 0 (en 2 [.ref 0, .int (nI j)]) [] h Q := by
  refine w_iload_n dX10_count_0 rfl rfl ?_
  refine w_iconst dX10_count_1 (v := 4) (by decide) ?_
  refine w_icmp_ne (tgt := 16) dX10_count_2 (by decide) (fun c_2 => ?_) (fun c_2 => ?_)
  · rw [show (4 : Int32) = nI 4 from rfl, nI_eq (by omega) (by decide)] at c_2
    refine w_iload_n dX10_count_16 rfl rfl ?_
    refine w_if_lt (tgt := 25) dX10_count_17 (by decide) (fun c_17 => absurd c_17 (nI_pos (n := j) (by omega))) (fun c_17 => ?_)
    refine w_iload_n dX10_count_20 rfl rfl ?_
    refine w_iconst dX10_count_21 (v := 4) (by decide) ?_
    refine w_icmp_le (tgt := 35) dX10_count_22 (by decide) (fun c_22 => ?_) (fun c_22 => absurd c_22 (not_not_intro (nI_le (b := 4) hj (by decide))))
    refine w_aload_n dX10_count_35 rfl rfl ?_
    refine w_gs (b := 13) q.1 dX10_count_36 fX10_30 (by decide) rfl rfl (by decide) ?_
    refine w_gs (b := 15) q.1 dX10_count_39 fX10_174 (by decide) rfl rfl (by decide) ?_
    refine w_iload_n dX10_count_42 rfl rfl ?_
    refine c_get q dX10_count_43 (nI_clamp (by omega)) (vp_in_nI (by omega) (by decide)) ?_
    refine w_iret dX10_count_44 (fun _ e => by cases e; rfl) ?_
    rw [if_pos (by omega)] at k; exact k
  · rw [show (4 : Int32) = nI 4 from rfl, nI_eq (by omega) (by decide)] at c_2
    refine w_aload_n dX10_count_5 rfl rfl ?_
    refine w_gs (b := 13) q.1 dX10_count_6 fX10_30 (by decide) rfl rfl (by decide) ?_
    refine w_gs (b := 18) q.1 dX10_count_9 fX10_163 (by decide) rfl rfl (by decide) ?_
    refine w_gi q.1 dX10_count_12 fX10_167 rfl rfl (by decide) ?_
    refine w_iret dX10_count_15 (fun _ e => by cases e; rfl) ?_
    rw [if_neg (by omega)] at k; obtain ⟨fi, -, -, ew, -⟩ := q.2.2.1; rw [ew]; exact k

set_option maxRecDepth 20000 in
set_option maxHeartbeats 4000000 in
/-- count(what), refused -/
theorem T_ccntX {X : Nat × (Nat → Int32)} {h : PH} {σ : MS} {Q : Option Value → PH → Prop} {i : Int32} (hb : i < 0 ∨ ¬ i ≤ 4) (k : Q (some (.retAddr 25)) h) : WP X mX10_count 1 20 0 (en 2 [.ref 0, .int i]) [] h Q := by
  refine w_iload_n dX10_count_0 rfl rfl ?_
  refine w_iconst dX10_count_1 (v := 4) (by decide) ?_
  refine w_icmp_ne (tgt := 16) dX10_count_2 (by decide) (fun c_2 => ?_) (fun c_2 => absurd c_2 (fun z => by rw [z] at hb; revert hb; decide))
  refine w_iload_n dX10_count_16 rfl rfl ?_
  refine w_if_lt (tgt := 25) dX10_count_17 (by decide) (fun c_17 => ?_) (fun c_17 => ?_)
  · refine w_throw ?_
    exact k
  · refine w_iload_n dX10_count_20 rfl rfl ?_
    refine w_iconst dX10_count_21 (v := 4) (by decide) ?_
    refine w_icmp_le (tgt := 35) dX10_count_22 (by decide) (fun c_22 => absurd c_22 (hb.resolve_left c_17)) (fun c_22 => ?_)
    refine w_throw ?_
    exact k

