/-! THE CLASS's write() -/
theorem fN_36 (n : Nat) : ∀ (l : List (Nat × Nat)) (i : Nat), 36 ≤ i → 36 ≤ fN n l i
  | [], _, _ => Nat.le_refl _
  | p :: l, i, h => by
    rw [fN]
    cases Nat.beq (Nat.land n p.1) p.2
    · exact fN_36 n l (i + 1) (by omega)
    · exact h
theorem fN_ge (n : Nat) : ∀ (l : List (Nat × Nat)) (i : Nat), i ≤ 36 → i ≤ fN n l i
  | [], i, h => h
  | p :: l, i, h => by
    rw [fN]
    cases Nat.beq (Nat.land n p.1) p.2
    · show i ≤ fN n l (i + 1)
      by_cases c : i + 1 ≤ 36
      · exact Nat.le_trans (Nat.le_succ i) (fN_ge n l (i + 1) c)
      · have hi : i = 36 := by omega
        subst hi
        exact fN_36 n l 37 (by decide)
    · exact Nat.le_refl _
theorem fN_4 (n : Nat) : 4 ≤ fN n mkB 0 := by
  have z : Nat.beq (Nat.land n 0) 65536 = false := by rw [show Nat.land n 0 = 0 from Nat.and_zero n]; rfl
  show 4 ≤ fN n ((0, 65536) :: (0, 65536) :: (0, 65536) :: (0, 65536) :: mkB.drop 4) 0
  rw [fN, z, fN, z, fN, z, fN, z]
  exact fN_ge n _ 4 (by decide)
theorem opTx_lt : ∀ i, i < 37 → opTx.getD i 0 < 60 ∧ (sB (opTx.getD i 0)).length + 8 * (sB (opSh.getD i 0)).length ≤ 32 ∧ (sB (opTx.getD i 0)).all (fun b => decide (b &&& 255 = b)) = true := by decide +kernel
set_option maxRecDepth 20000 in
set_option maxHeartbeats 4000000 in
theorem L_tl {X : Nat × (Nat → Int32)} {h0 : PH} {Q : Option Value → PH → Prop} {j : Nat} {w9 : Int32} (hj : j < 37) (hj4 : 4 ≤ j) : ∀ (fs : List Int32) (i : Nat) (h : PH) (L : List Int32), i ≤ 4 → (sB (opSh.getD j 0)).drop i = fs → Sm [23, 24] h0 h → LC h L → (∀ h', Sm [23, 24] h0 h' → LC h' (adB L (opL w9 fs (decide (i = 0)))) → Q none h') → WP X mX9_tell 7 152 26 [some (.ref 22), some (.int w9), some (.ref (1000000 + j)), some (.int (nI i))] [] h Q := by
  have hl := (opSh_lt j hj).2
  intro fs
  induction fs with
  | nil =>
    intro i h L hi4 hf f q k
    have hi3 : (sB (opSh.getD j 0)).length ≤ i := by
      have := congrArg List.length hf
      rw [List.length_drop, List.length_nil] at this; omega
    by_cases hib : i < 2 ^ 31
    · refine w_iload_n dX9_tell_26 rfl rfl ?_
      refine w_aload_n dX9_tell_27 rfl rfl ?_
      refine w_cget dX9_tell_28 (kF_h9 hj) gX9_37 ?_
      refine w_callC (d2 := 1) (L2 := 20) (M2 := mJ0_length_8abf5) (As := []) dX9_tell_31 oJ0_length_8abf5 lX9_40 iJ0_length_8abf5 sJ0_length_8abf5 (kO_s9 (opSh_lt j hj).1) rfl rfl (fun v hv => by cases hv) (by decide) (Nat.le_of_ble_eq_true rfl) (by decide) (by decide) ?_
      refine T_slen (opSh_lt j hj).1 ?_
      refine k_i rfl ?_
      refine w_icmp_ge (tgt := 74) dX9_tell_34 (by decide) (fun c_34 => ?_) (fun c_34 => absurd c_34 (not_not_intro (nI_le hi3 hib)))
      refine w_vret dX9_tell_74 ?_
      exact k _ f q
    · omega
  | cons c fs ih =>
    intro i h L hi4 hf f q k
    have hi3 : i < (sB (opSh.getD j 0)).length := by
      have := congrArg List.length hf
      rw [List.length_drop, List.length_cons] at this; omega
    have hc : (sB (opSh.getD j 0))[i]? = some c := by
      have := congrArg (fun l => l[0]?) hf
      simpa [List.getElem?_drop] using this
    have hg : (sB (opSh.getD j 0)).getD i 0 = c := by rw [List.getD_eq_getElem?_getD, hc]; rfl
    have hm : c ∈ shL := by
      have := List.all_eq_true.mp (sh_ok j hj hj4) c (List.mem_of_getElem? hc)
      simpa using this
    have hd9 : (sB (opSh.getD j 0)).drop (i + 1) = fs := by rw [dr_s hc] at hf; exact (List.cons.inj hf).2
    rw [opL] at k
    refine w_iload_n dX9_tell_26 rfl rfl ?_
    refine w_aload_n dX9_tell_27 rfl rfl ?_
    refine w_cget dX9_tell_28 (kF_h9 hj) gX9_37 ?_
    refine w_callC (d2 := 1) (L2 := 20) (M2 := mJ0_length_8abf5) (As := []) dX9_tell_31 oJ0_length_8abf5 lX9_40 iJ0_length_8abf5 sJ0_length_8abf5 (kO_s9 (opSh_lt j hj).1) rfl rfl (fun v hv => by cases hv) (by decide) (Nat.le_of_ble_eq_true rfl) (by decide) (by decide) ?_
    refine T_slen (opSh_lt j hj).1 ?_
    refine k_i rfl ?_
    refine w_icmp_ge (tgt := 74) dX9_tell_34 (by decide) (fun c_34 => absurd c_34 (nI_ge hi3 (by omega))) (fun c_34 => ?_)
    refine w_aload_n dX9_tell_37 rfl rfl ?_
    refine w_gs (b := 23) q.1 dX9_tell_38 fX9_14 (by decide) rfl rfl (by decide) ?_
    refine w_iload_n dX9_tell_41 rfl rfl ?_
    refine w_if_ne (tgt := 50) dX9_tell_42 (by decide) (fun c_42 => ?_) (fun c_42 => ?_)
    · rw [show (0 : Int32) = nI 0 from rfl, nI_eq (by omega) (by decide)] at c_42
      refine w_ldcS (id := 1001001) dX9_tell_50 kR_48 ?_
      refine w_v1 (d2 := 4) (L2 := 85) dX9_tell_52 vX9_33 rfl (q.1.lt (by decide)) rfl (by decide) (Nat.le_of_ble_eq_true rfl) (by decide) (by decide) ?_
      refine T_atx (j := 1) (by decide) f q (fun h1 f1 q1 => ?_)
      refine k_v rfl ?_
      refine w_aload_n dX9_tell_55 rfl rfl ?_
      refine w_aload_n dX9_tell_56 rfl rfl ?_
      refine w_cget dX9_tell_57 (kF_h9 hj) gX9_37 ?_
      refine w_iload_n dX9_tell_60 rfl rfl ?_
      refine w_callC (d2 := 3) (L2 := 64) (M2 := mJ0_charAt_5068e) (As := [.int (nI (i))]) dX9_tell_61 oJ0_charAt_5068e lX9_50 iJ0_charAt_5068e sJ0_charAt_5068e (kO_s9 (opSh_lt j hj).1) rfl rfl (fun v hv => by simp only [List.mem_cons, List.not_mem_nil, or_false] at hv; rw [hv]; rfl) (Nat.le_of_ble_eq_true rfl) (Nat.le_of_ble_eq_true rfl) (by decide) (by decide) ?_
      refine T_char (i := i) (opSh_lt j hj).1 (hi3) ?_
      refine k_i rfl ?_
      rw [hg]
      refine w_iload_n dX9_tell_64 rfl rfl ?_
      refine w_v2 (d2 := 6) (L2 := 130) dX9_tell_65 vX9_54 rfl (q1.1.lt (by decide)) rfl rfl (by decide) (Nat.le_of_ble_eq_true rfl) (by decide) (by decide) ?_
      refine T_to hm f1 q1 (fun hz fz qz => ?_)
      refine k_v rfl ?_
      refine w_iinc (v := (nI (i + 1))) dX9_tell_68 rfl (nI_1 i) (by decide) ?_
      refine w_goto (tgt := 26) dX9_tell_71 (by decide) ?_
      exact ih (i + 1) _ _ (by omega) hd9 fz qz (fun h9 f9 q9 => k h9 f9 (by rw [adB_app, adB_app, if_neg (by rw [decide_eq_false c_42]; decide)]; exact q9))
    · rw [show (0 : Int32) = nI 0 from rfl, nI_eq (by omega) (by decide)] at c_42
      refine w_ldcS (id := 1001000) dX9_tell_45 kR_46 ?_
      refine w_goto (tgt := 52) dX9_tell_47 (by decide) ?_
      refine w_v1 (d2 := 4) (L2 := 85) dX9_tell_52 vX9_33 rfl (q.1.lt (by decide)) rfl (by decide) (Nat.le_of_ble_eq_true rfl) (by decide) (by decide) ?_
      refine T_atx (j := 0) (by decide) f q (fun h2 f2 q2 => ?_)
      refine k_v rfl ?_
      refine w_aload_n dX9_tell_55 rfl rfl ?_
      refine w_aload_n dX9_tell_56 rfl rfl ?_
      refine w_cget dX9_tell_57 (kF_h9 hj) gX9_37 ?_
      refine w_iload_n dX9_tell_60 rfl rfl ?_
      refine w_callC (d2 := 3) (L2 := 64) (M2 := mJ0_charAt_5068e) (As := [.int (nI (i))]) dX9_tell_61 oJ0_charAt_5068e lX9_50 iJ0_charAt_5068e sJ0_charAt_5068e (kO_s9 (opSh_lt j hj).1) rfl rfl (fun v hv => by simp only [List.mem_cons, List.not_mem_nil, or_false] at hv; rw [hv]; rfl) (Nat.le_of_ble_eq_true rfl) (Nat.le_of_ble_eq_true rfl) (by decide) (by decide) ?_
      refine T_char (i := i) (opSh_lt j hj).1 (hi3) ?_
      refine k_i rfl ?_
      rw [hg]
      refine w_iload_n dX9_tell_64 rfl rfl ?_
      refine w_v2 (d2 := 6) (L2 := 130) dX9_tell_65 vX9_54 rfl (q2.1.lt (by decide)) rfl rfl (by decide) (Nat.le_of_ble_eq_true rfl) (by decide) (by decide) ?_
      refine T_to hm f2 q2 (fun hz fz qz => ?_)
      refine k_v rfl ?_
      refine w_iinc (v := (nI (i + 1))) dX9_tell_68 rfl (nI_1 i) (by decide) ?_
      refine w_goto (tgt := 26) dX9_tell_71 (by decide) ?_
      exact ih (i + 1) _ _ (by omega) hd9 fz qz (fun h9 f9 q9 => k h9 f9 (by rw [adB_app, adB_app, if_pos (decide_eq_true c_42)]; exact q9))

set_option maxRecDepth 20000 in
set_option maxHeartbeats 4000000 in
theorem T_tell9 {X : Nat × (Nat → Int32)} {h0 h : PH} {Q : Option Value → PH → Prop} {L : List Int32} {n : Nat} (hn : n < 65536) (f : Sm [23, 24] h0 h) (q : LC h L) (k : ∀ h', Sm [23, 24] h0 h' → LC h' (adB [] (lwT (fN n mkB 0) (nI n))) → Q none h') : WP X mX9_tell 7 152 0 (en 4 [.ref 22, .int (nI n)]) [] h Q := by
  refine w_aload_n dX9_tell_0 rfl rfl ?_
  refine w_gs (b := 23) q.1 dX9_tell_1 fX9_14 (by decide) rfl rfl (by decide) ?_
  refine w_iconst dX9_tell_4 (v := 0) (by decide) ?_
  refine w_v1 (d2 := 0) (L2 := 0) dX9_tell_5 vX9_20 rfl (q.1.lt (by decide)) rfl (by decide) (Nat.le_of_ble_eq_true rfl) (by decide) (by decide) ?_
  refine T_cutL (m := 0) (Nat.zero_le _) f q (fun ha fa qa => ?_)
  rw [List.take_zero] at qa
  refine k_v rfl ?_
  refine w_iload_n dX9_tell_8 rfl rfl ?_
  refine w_s1 (d2 := 1) (L2 := 21) dX9_tell_9 vX9_23 rfl (by decide) (Nat.le_of_ble_eq_true rfl) (by decide) (by decide) ?_
  refine T_opOf hn (fun j hj ej => ?_)
  · refine k_r rfl ?_
    refine w_astore_n dX9_tell_12 rfl (by decide) ?_
    have hj4 : 4 ≤ j := by rw [← ej]; exact fN_4 n
    refine w_aload_n dX9_tell_13 rfl rfl ?_
    refine w_gs (b := 23) qa.1 dX9_tell_14 fX9_14 (by decide) rfl rfl (by decide) ?_
    refine w_aload_n dX9_tell_17 rfl rfl ?_
    refine w_cget dX9_tell_18 (kF_t9 hj) gX9_27 ?_
    refine w_v1 (d2 := 4) (L2 := 85) dX9_tell_21 vX9_33 rfl (qa.1.lt (by decide)) rfl (by decide) (Nat.le_of_ble_eq_true rfl) (by decide) (by decide) ?_
    refine T_atx (opTx_lt j hj).1 fa qa (fun hb fb qb => ?_)
    refine k_v rfl ?_
    refine w_iconst dX9_tell_24 (v := 0) (by decide) ?_
    refine w_istore_n dX9_tell_25 rfl (by decide) ?_
    rw [ej] at k
    exact L_tl hj hj4 (sB (opSh.getD j 0)) 0 _ _ (by decide) rfl fb qb (fun h9 f9 q9 => k h9 f9 (by unfold lwT; rw [adB_app]; exact q9))

set_option maxRecDepth 20000 in
set_option maxHeartbeats 4000000 in
theorem T_cwrite {X : Nat × (Nat → Int32)} {h : PH} {Q : Option Value → PH → Prop} {L : List Int32} {σ : MS} {p : Int32} {n : Nat} (hn : n < 65536) (hl : lookS σ (p &&& 65535) = nI n) (qc : RC h σ) (q : LC h L) (k : ∀ h', Sm [23, 24] h h' → LC h' (adB [] (lwT (fN n mkB 0) (nI n))) → Q (some (.int (nI (adB [] (lwT (fN n mkB 0) (nI n))).length))) h') : WP X mX10_write 8 175 0 (en 2 [.ref 0, .int p]) [] h Q := by
  refine w_aload_n dX10_write_0 rfl rfl ?_
  refine w_gs (b := 22) q.1 dX10_write_1 fX10_37 (by decide) rfl rfl (by decide) ?_
  refine w_aload_n dX10_write_4 rfl rfl ?_
  refine w_gs (b := 13) q.1 dX10_write_5 fX10_30 (by decide) rfl rfl (by decide) ?_
  refine w_iload_n dX10_write_8 rfl rfl ?_
  refine w_ldc dX10_write_9 kX10_127 ?_
  refine w_iand dX10_write_11 ?_
  refine w_v1 (d2 := 1) (L2 := 22) dX10_write_12 vX10_128 rfl (q.1.lt (by decide)) rfl (by decide) (Nat.le_of_ble_eq_true rfl) (by decide) (by decide) ?_
  refine T_look qc ?_
  rw [hl]
  refine k_i rfl ?_
  refine w_v1 (d2 := 7) (L2 := 152) dX10_write_15 vX10_141 rfl (q.1.lt (by decide)) rfl (by decide) (Nat.le_of_ble_eq_true rfl) (by decide) (by decide) ?_
  refine T_tell9 hn Sm.rf q (fun hz fz qz => ?_)
  refine k_v rfl ?_
  refine w_aload_n dX10_write_18 rfl rfl ?_
  refine w_gs (b := 22) qz.1 dX10_write_19 fX10_37 (by decide) rfl rfl (by decide) ?_
  refine w_gs (b := 23) qz.1 dX10_write_22 fX10_144 (by decide) rfl rfl (by decide) ?_
  refine w_gi qz.1 dX10_write_25 fX10_48 rfl rfl (by decide) ?_
  refine w_iret dX10_write_28 (fun _ e => by cases e; rfl) ?_
  rw [qz.2.1]; exact k _ fz qz

