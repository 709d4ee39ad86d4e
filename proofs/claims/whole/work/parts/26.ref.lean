/-! THE REFERENCE: the faces of its machine -/
set_option maxRecDepth 20000 in
set_option maxHeartbeats 4000000 in
/-- state() -/
theorem T_mstate {X : Nat × (Nat → Int32)} {h : PH} {τ : MS} {Q : Option Value → PH → Prop} (q : RM h τ) (k : ∀ h', FR (sI h 25 0 0) h' → RM h' τ → Q (some (.int (τ.1 12))) h') : WP X mX11_state 0 0 0 (en 1 [.ref 25]) [] h Q := by
  refine w_aload_n dX11_state_0 rfl rfl ?_
  refine w_iconst dX11_state_1 (v := 0) (by decide) ?_
  refine y_thr q dX11_state_2 fX11_60 (fun f1 q1 => ?_)
  refine w_aload_n dX11_state_5 rfl rfl ?_
  refine y_get (j := 12) q1 dX11_state_6 fX11_74 (by decide) rfl ?_
  refine w_iret dX11_state_9 (fun _ e => by cases e; rfl) ?_
  exact k _ f1 q1

set_option maxRecDepth 20000 in
set_option maxHeartbeats 4000000 in
/-- printed() -/
theorem T_mprinted {X : Nat × (Nat → Int32)} {h : PH} {τ : MS} {Q : Option Value → PH → Prop} (q : RM h τ) (k : ∀ h', FR (sI h 25 0 0) h' → RM h' τ → Q (some (.int (τ.1 15))) h') : WP X mX11_printed 0 0 0 (en 1 [.ref 25]) [] h Q := by
  refine w_aload_n dX11_printed_0 rfl rfl ?_
  refine w_iconst dX11_printed_1 (v := 0) (by decide) ?_
  refine y_thr q dX11_printed_2 fX11_60 (fun f1 q1 => ?_)
  refine w_aload_n dX11_printed_5 rfl rfl ?_
  refine y_get (j := 15) q1 dX11_printed_6 fX11_110 (by decide) rfl ?_
  refine w_iret dX11_printed_9 (fun _ e => by cases e; rfl) ?_
  exact k _ f1 q1

set_option maxRecDepth 20000 in
set_option maxHeartbeats 4000000 in
/-- peek(place) -/
theorem T_mpeek {X : Nat × (Nat → Int32)} {h : PH} {τ : MS} {Q : Option Value → PH → Prop} {p : Int32} (q : RM h τ) (k : ∀ h', FR (sI h 25 0 0) h' → RM h' τ → Q (some (.int (mlk τ (p &&& 65535)))) h') : WP X mX11_peek 1 21 0 (en 2 [.ref 25, .int p]) [] h Q := by
  refine w_aload_n dX11_peek_0 rfl rfl ?_
  refine w_iconst dX11_peek_1 (v := 0) (by decide) ?_
  refine y_thr q dX11_peek_2 fX11_60 (fun f1 q1 => ?_)
  refine w_aload_n dX11_peek_5 rfl rfl ?_
  refine w_iload_n dX11_peek_6 rfl rfl ?_
  refine w_s1 (d2 := 0) (L2 := 0) dX11_peek_7 vX11_93 rfl (by decide) (Nat.le_of_ble_eq_true rfl) (by decide) (by decide) ?_
  refine T_cut ?_
  refine k_i rfl ?_
  refine w_v1 (d2 := 0) (L2 := 0) dX11_peek_10 vX11_97 rfl (q1.1.lt (by decide)) rfl (by decide) (Nat.le_of_ble_eq_true rfl) (by decide) (by decide) ?_
  refine T_seen (in16 _) q1 ?_
  refine k_i rfl ?_
  refine w_iret dX11_peek_13 (fun _ e => by cases e; rfl) ?_
  exact k _ f1 q1

set_option maxRecDepth 20000 in
set_option maxHeartbeats 4000000 in
/-- poke(place, v) -/
theorem T_mpoke {X : Nat × (Nat → Int32)} {h : PH} {τ : MS} {Q : Option Value → PH → Prop} {p v : Int32} (q : RM h τ) (k : ∀ h', FR (sI h 25 0 0) h' → RM h' (sM τ (p &&& 65535).toNatClampNeg (v &&& 65535)) → Q none h') : WP X mX11_poke 1 20 0 (en 3 [.ref 25, .int p, .int v]) [] h Q := by
  refine w_aload_n dX11_poke_0 rfl rfl ?_
  refine w_iconst dX11_poke_1 (v := 0) (by decide) ?_
  refine y_thr q dX11_poke_2 fX11_60 (fun f1 q1 => ?_)
  refine w_aload_n dX11_poke_5 rfl rfl ?_
  refine w_gs (b := 26) q1.1 dX11_poke_6 fX11_8 (by decide) rfl rfl (by decide) ?_
  refine w_iload_n dX11_poke_9 rfl rfl ?_
  refine w_s1 (d2 := 0) (L2 := 0) dX11_poke_10 vX11_93 rfl (by decide) (Nat.le_of_ble_eq_true rfl) (by decide) (by decide) ?_
  refine T_cut ?_
  refine k_i rfl ?_
  refine w_iload_n dX11_poke_13 rfl rfl ?_
  refine w_s1 (d2 := 0) (L2 := 0) dX11_poke_14 vX11_93 rfl (by decide) (Nat.le_of_ble_eq_true rfl) (by decide) (by decide) ?_
  refine T_cut ?_
  refine k_i rfl ?_
  refine e_put f1 q1 dX11_poke_17 (in16 _) (fun h2 f2 q2 => ?_)
  refine w_vret dX11_poke_18 ?_
  exact k _ f2 q2

set_option maxRecDepth 20000 in
set_option maxHeartbeats 4000000 in
/-- register(i) -/
theorem T_mreg {X : Nat × (Nat → Int32)} {h : PH} {τ : MS} {Q : Option Value → PH → Prop} {j : Nat} (hj : j ≤ 11) (q : RM h τ) (k : ∀ h', FR (sI h 25 0 0) h' → RM h' τ → Q (some (.int (τ.1 j))) h') : WP X mX11_register 0 0 0 (en 2 [.ref 25, .int (nI j)]) [] h Q := by
  refine w_aload_n dX11_register_0 rfl rfl ?_
  refine w_iload_n dX11_register_1 rfl rfl ?_
  refine w_if_lt (tgt := 11) dX11_register_2 (by decide) (fun c_2 => absurd c_2 (nI_pos (n := j) (by omega))) (fun c_2 => ?_)
  refine w_iload_n dX11_register_5 rfl rfl ?_
  refine w_bipush dX11_register_6 (v := 11) (by decide) ?_
  refine w_icmp_le (tgt := 15) dX11_register_8 (by decide) (fun c_8 => ?_) (fun c_8 => absurd c_8 (not_not_intro (nI_le (b := 11) hj (by decide))))
  refine w_iconst dX11_register_15 (v := 0) (by decide) ?_
  refine y_thr q dX11_register_16 fX11_60 (fun f1 q1 => ?_)
  refine w_aload_n dX11_register_19 rfl rfl ?_
  refine w_gi q1.1 dX11_register_20 fX11_60 rfl rfl (by decide) ?_
  refine w_if_le (tgt := 28) dX11_register_23 (by decide) (fun c_23 => ?_) (fun c_23 => absurd c_23 (not_not_intro (by rw [FR.thr f1]; decide)))
  refine w_iload_n dX11_register_28 rfl rfl ?_
  refine w_bipush dX11_register_29 (v := 8) (by decide) ?_
  refine w_icmp_ge (tgt := 43) dX11_register_31 (by decide) (fun c_31 => ?_) (fun c_31 => ?_)
  · rw [show (8 : Int32) = nI 8 from rfl, nI_leI (by first | decide | omega) (by first | decide | omega)] at c_31
    refine w_iload_n dX11_register_43 rfl rfl ?_
    refine w_bipush dX11_register_44 (v := 8) (by decide) ?_
    refine w_icmp_ne (tgt := 56) dX11_register_46 (by decide) (fun c_46 => ?_) (fun c_46 => ?_)
    · rw [show (8 : Int32) = nI 8 from rfl, nI_eq (by omega) (by decide)] at c_46
      refine w_iload_n dX11_register_56 rfl rfl ?_
      refine w_bipush dX11_register_57 (v := 9) (by decide) ?_
      refine w_icmp_ne (tgt := 69) dX11_register_59 (by decide) (fun c_59 => ?_) (fun c_59 => ?_)
      · rw [show (9 : Int32) = nI 9 from rfl, nI_eq (by omega) (by decide)] at c_59
        refine w_iload_n dX11_register_69 rfl rfl ?_
        refine w_bipush dX11_register_70 (v := 10) (by decide) ?_
        refine w_icmp_ne (tgt := 82) dX11_register_72 (by decide) (fun c_72 => ?_) (fun c_72 => ?_)
        · rw [show (10 : Int32) = nI 10 from rfl, nI_eq (by omega) (by decide)] at c_72
          refine w_aload_n dX11_register_82 rfl rfl ?_
          refine y_get (j := 11) q1 dX11_register_83 fX11_71 (by decide) rfl ?_
          refine w_iret dX11_register_86 (fun _ e => by cases e; rfl) ?_
          obtain rfl : j = 11 := by omega
          exact k _ f1 q1
        · rw [show (10 : Int32) = nI 10 from rfl, nI_eq (by omega) (by decide)] at c_72
          refine w_aload_n dX11_register_75 rfl rfl ?_
          refine y_get (j := 10) q1 dX11_register_76 fX11_67 (by decide) rfl ?_
          refine w_goto (tgt := 86) dX11_register_79 (by decide) ?_
          refine w_iret dX11_register_86 (fun _ e => by cases e; rfl) ?_
          obtain rfl : j = 10 := by omega
          exact k _ f1 q1
      · rw [show (9 : Int32) = nI 9 from rfl, nI_eq (by omega) (by decide)] at c_59
        refine w_aload_n dX11_register_62 rfl rfl ?_
        refine y_get (j := 9) q1 dX11_register_63 fX11_64 (by decide) rfl ?_
        refine w_goto (tgt := 86) dX11_register_66 (by decide) ?_
        refine w_iret dX11_register_86 (fun _ e => by cases e; rfl) ?_
        obtain rfl : j = 9 := by omega
        exact k _ f1 q1
    · rw [show (8 : Int32) = nI 8 from rfl, nI_eq (by omega) (by decide)] at c_46
      refine w_aload_n dX11_register_49 rfl rfl ?_
      refine y_get (j := 8) q1 dX11_register_50 fX11_57 (by decide) rfl ?_
      refine w_goto (tgt := 86) dX11_register_53 (by decide) ?_
      refine w_iret dX11_register_86 (fun _ e => by cases e; rfl) ?_
      obtain rfl : j = 8 := by omega
      exact k _ f1 q1
  · rw [show (8 : Int32) = nI 8 from rfl, nI_leI (by first | decide | omega) (by first | decide | omega)] at c_31
    refine w_aload_n dX11_register_34 rfl rfl ?_
    refine w_gs (b := 27) q1.1 dX11_register_35 fX11_14 (by decide) rfl rfl (by decide) ?_
    refine w_iload_n dX11_register_38 rfl rfl ?_
    refine g_get q1 dX11_register_39 (nI_clamp (by omega)) (vp_in_nI (by omega) (by decide)) ?_
    refine w_goto (tgt := 86) dX11_register_40 (by decide) ?_
    refine w_iret dX11_register_86 (fun _ e => by cases e; rfl) ?_
    exact k _ f1 q1

set_option maxRecDepth 20000 in
set_option maxHeartbeats 4000000 in
/-- register(i), refused -/
theorem T_mregX {X : Nat × (Nat → Int32)} {h : PH} {τ : MS} {Q : Option Value → PH → Prop} {i : Int32} (hb : i < 0 ∨ ¬ i ≤ 11) (q : RM h τ) (k : ∀ h', FR (sI h 25 0 1) h' → RM h' τ → Q (some (.int 0)) h') : WP X mX11_register 0 0 0 (en 2 [.ref 25, .int i]) [] h Q := by
  refine w_aload_n dX11_register_0 rfl rfl ?_
  refine w_iload_n dX11_register_1 rfl rfl ?_
  refine w_if_lt (tgt := 11) dX11_register_2 (by decide) (fun c_2 => ?_) (fun c_2 => ?_)
  · refine w_iconst dX11_register_11 (v := 1) (by decide) ?_
    refine w_goto (tgt := 16) dX11_register_12 (by decide) ?_
    refine y_thr q dX11_register_16 fX11_60 (fun f1 q1 => ?_)
    refine w_aload_n dX11_register_19 rfl rfl ?_
    refine w_gi q1.1 dX11_register_20 fX11_60 rfl rfl (by decide) ?_
    refine w_if_le (tgt := 28) dX11_register_23 (by decide) (fun c_23 => absurd c_23 (by rw [FR.thr f1]; decide)) (fun c_23 => ?_)
    refine w_iconst dX11_register_26 (v := 0) (by decide) ?_
    refine w_iret dX11_register_27 (fun _ e => by cases e; rfl) ?_
    exact k _ f1 q1
  · refine w_iload_n dX11_register_5 rfl rfl ?_
    refine w_bipush dX11_register_6 (v := 11) (by decide) ?_
    refine w_icmp_le (tgt := 15) dX11_register_8 (by decide) (fun c_8 => absurd c_8 (hb.resolve_left c_2)) (fun c_8 => ?_)
    refine w_iconst dX11_register_11 (v := 1) (by decide) ?_
    refine w_goto (tgt := 16) dX11_register_12 (by decide) ?_
    refine y_thr q dX11_register_16 fX11_60 (fun f2 q2 => ?_)
    refine w_aload_n dX11_register_19 rfl rfl ?_
    refine w_gi q2.1 dX11_register_20 fX11_60 rfl rfl (by decide) ?_
    refine w_if_le (tgt := 28) dX11_register_23 (by decide) (fun c_23 => absurd c_23 (by rw [FR.thr f2]; decide)) (fun c_23 => ?_)
    refine w_iconst dX11_register_26 (v := 0) (by decide) ?_
    refine w_iret dX11_register_27 (fun _ e => by cases e; rfl) ?_
    exact k _ f2 q2

set_option maxRecDepth 20000 in
set_option maxHeartbeats 4000000 in
/-- set(i, v) -/
theorem T_mset {X : Nat × (Nat → Int32)} {h : PH} {τ : MS} {Q : Option Value → PH → Prop} {j : Nat} {v : Int32} (hj : j ≤ 11) (q : RM h τ) (k : ∀ h', FR (sI h 25 0 0) h' → RM h' (sG τ j (v &&& (if j = 9 then 34567 else 65535))) → Q (some (.int 1)) h') : WP X mX11_set 1 20 0 (en 3 [.ref 25, .int (nI j), .int v]) [] h Q := by
  refine w_aload_n dX11_set_0 rfl rfl ?_
  refine w_iconst dX11_set_1 (v := 0) (by decide) ?_
  refine y_thr q dX11_set_2 fX11_60 (fun f1 q1 => ?_)
  refine w_iload_n dX11_set_5 rfl rfl ?_
  refine w_if_lt (tgt := 15) dX11_set_6 (by decide) (fun c_6 => absurd c_6 (nI_pos (n := j) (by omega))) (fun c_6 => ?_)
  refine w_iload_n dX11_set_9 rfl rfl ?_
  refine w_bipush dX11_set_10 (v := 11) (by decide) ?_
  refine w_icmp_le (tgt := 17) dX11_set_12 (by decide) (fun c_12 => ?_) (fun c_12 => absurd c_12 (not_not_intro (nI_le (b := 11) hj (by decide))))
  refine w_iload_n dX11_set_17 rfl rfl ?_
  refine w_bipush dX11_set_18 (v := 8) (by decide) ?_
  refine w_icmp_ge (tgt := 36) dX11_set_20 (by decide) (fun c_20 => ?_) (fun c_20 => ?_)
  · rw [show (8 : Int32) = nI 8 from rfl, nI_leI (by first | decide | omega) (by first | decide | omega)] at c_20
    refine w_iload_n dX11_set_36 rfl rfl ?_
    refine w_bipush dX11_set_37 (v := 8) (by decide) ?_
    refine w_icmp_ne (tgt := 53) dX11_set_39 (by decide) (fun c_39 => ?_) (fun c_39 => ?_)
    · rw [show (8 : Int32) = nI 8 from rfl, nI_eq (by omega) (by decide)] at c_39
      refine w_iload_n dX11_set_53 rfl rfl ?_
      refine w_bipush dX11_set_54 (v := 9) (by decide) ?_
      refine w_icmp_ne (tgt := 70) dX11_set_56 (by decide) (fun c_56 => ?_) (fun c_56 => ?_)
      · rw [show (9 : Int32) = nI 9 from rfl, nI_eq (by omega) (by decide)] at c_56
        refine w_iload_n dX11_set_70 rfl rfl ?_
        refine w_bipush dX11_set_71 (v := 10) (by decide) ?_
        refine w_icmp_ne (tgt := 87) dX11_set_73 (by decide) (fun c_73 => ?_) (fun c_73 => ?_)
        · rw [show (10 : Int32) = nI 10 from rfl, nI_eq (by omega) (by decide)] at c_73
          refine w_aload_n dX11_set_87 rfl rfl ?_
          refine w_iload_n dX11_set_88 rfl rfl ?_
          refine w_s1 (d2 := 0) (L2 := 0) dX11_set_89 vX11_93 rfl (by decide) (Nat.le_of_ble_eq_true rfl) (by decide) (by decide) ?_
          refine T_cut ?_
          refine k_i rfl ?_
          refine y_put (j := 11) f1 q1 dX11_set_92 fX11_71 (by decide) rfl (fun h2 f2 q2 => ?_)
          refine w_iconst dX11_set_95 (v := 1) (by decide) ?_
          refine w_iret dX11_set_96 (fun _ e => by cases e; decide) ?_
          obtain rfl : j = 11 := by omega
          rw [if_neg (by decide)] at k; exact k _ f2 q2
        · rw [show (10 : Int32) = nI 10 from rfl, nI_eq (by omega) (by decide)] at c_73
          refine w_aload_n dX11_set_76 rfl rfl ?_
          refine w_iload_n dX11_set_77 rfl rfl ?_
          refine w_s1 (d2 := 0) (L2 := 0) dX11_set_78 vX11_93 rfl (by decide) (Nat.le_of_ble_eq_true rfl) (by decide) (by decide) ?_
          refine T_cut ?_
          refine k_i rfl ?_
          refine y_put (j := 10) f1 q1 dX11_set_81 fX11_67 (by decide) rfl (fun h3 f3 q3 => ?_)
          refine w_goto (tgt := 95) dX11_set_84 (by decide) ?_
          refine w_iconst dX11_set_95 (v := 1) (by decide) ?_
          refine w_iret dX11_set_96 (fun _ e => by cases e; decide) ?_
          obtain rfl : j = 10 := by omega
          rw [if_neg (by decide)] at k; exact k _ f3 q3
      · rw [show (9 : Int32) = nI 9 from rfl, nI_eq (by omega) (by decide)] at c_56
        refine w_aload_n dX11_set_59 rfl rfl ?_
        refine w_iload_n dX11_set_60 rfl rfl ?_
        refine w_ldc dX11_set_61 kX11_173 ?_
        refine w_iand dX11_set_63 ?_
        refine y_put (j := 9) f1 q1 dX11_set_64 fX11_64 (by decide) rfl (fun h4 f4 q4 => ?_)
        refine w_goto (tgt := 95) dX11_set_67 (by decide) ?_
        refine w_iconst dX11_set_95 (v := 1) (by decide) ?_
        refine w_iret dX11_set_96 (fun _ e => by cases e; decide) ?_
        obtain rfl : j = 9 := by omega
        rw [if_pos rfl] at k; exact k _ f4 q4
    · rw [show (8 : Int32) = nI 8 from rfl, nI_eq (by omega) (by decide)] at c_39
      refine w_aload_n dX11_set_42 rfl rfl ?_
      refine w_iload_n dX11_set_43 rfl rfl ?_
      refine w_s1 (d2 := 0) (L2 := 0) dX11_set_44 vX11_93 rfl (by decide) (Nat.le_of_ble_eq_true rfl) (by decide) (by decide) ?_
      refine T_cut ?_
      refine k_i rfl ?_
      refine y_put (j := 8) f1 q1 dX11_set_47 fX11_57 (by decide) rfl (fun h5 f5 q5 => ?_)
      refine w_goto (tgt := 95) dX11_set_50 (by decide) ?_
      refine w_iconst dX11_set_95 (v := 1) (by decide) ?_
      refine w_iret dX11_set_96 (fun _ e => by cases e; decide) ?_
      obtain rfl : j = 8 := by omega
      rw [if_neg (by decide)] at k; exact k _ f5 q5
  · rw [show (8 : Int32) = nI 8 from rfl, nI_leI (by first | decide | omega) (by first | decide | omega)] at c_20
    refine w_aload_n dX11_set_23 rfl rfl ?_
    refine w_gs (b := 27) q1.1 dX11_set_24 fX11_14 (by decide) rfl rfl (by decide) ?_
    refine w_iload_n dX11_set_27 rfl rfl ?_
    refine w_iload_n dX11_set_28 rfl rfl ?_
    refine w_s1 (d2 := 0) (L2 := 0) dX11_set_29 vX11_93 rfl (by decide) (Nat.le_of_ble_eq_true rfl) (by decide) (by decide) ?_
    refine T_cut ?_
    refine k_i rfl ?_
    refine g_put f1 q1 dX11_set_32 (nI_clamp (by omega)) (vp_in_nI (by omega) (by decide)) (fun h6 f6 q6 => ?_)
    refine w_goto (tgt := 95) dX11_set_33 (by decide) ?_
    refine w_iconst dX11_set_95 (v := 1) (by decide) ?_
    refine w_iret dX11_set_96 (fun _ e => by cases e; decide) ?_
    rw [if_neg (by omega)] at k; exact k _ f6 q6

set_option maxRecDepth 20000 in
set_option maxHeartbeats 4000000 in
/-- set(i, v), refused -/
theorem T_msetX {X : Nat × (Nat → Int32)} {h : PH} {τ : MS} {Q : Option Value → PH → Prop} {i v : Int32} (hb : i < 0 ∨ ¬ i ≤ 11) (q : RM h τ) (k : ∀ h', FR (sI h 25 0 0) h' → RM h' τ → Q (some (.int (0))) h') : WP X mX11_set 1 20 0 (en 3 [.ref 25, .int i, .int v]) [] h Q := by
  refine w_aload_n dX11_set_0 rfl rfl ?_
  refine w_iconst dX11_set_1 (v := 0) (by decide) ?_
  refine y_thr q dX11_set_2 fX11_60 (fun f1 q1 => ?_)
  refine w_iload_n dX11_set_5 rfl rfl ?_
  refine w_if_lt (tgt := 15) dX11_set_6 (by decide) (fun c_6 => ?_) (fun c_6 => ?_)
  · refine w_iconst dX11_set_15 (v := 0) (by decide) ?_
    refine w_iret dX11_set_16 (fun _ e => by cases e; decide) ?_
    exact k _ f1 q1
  · refine w_iload_n dX11_set_9 rfl rfl ?_
    refine w_bipush dX11_set_10 (v := 11) (by decide) ?_
    refine w_icmp_le (tgt := 17) dX11_set_12 (by decide) (fun c_12 => absurd c_12 (hb.resolve_left c_6)) (fun c_12 => ?_)
    refine w_iconst dX11_set_15 (v := 0) (by decide) ?_
    refine w_iret dX11_set_16 (fun _ e => by cases e; decide) ?_
    exact k _ f1 q1

set_option maxRecDepth 20000 in
set_option maxHeartbeats 4000000 in
/-- count(what) -/
theorem T_mcnt {X : Nat × (Nat → Int32)} {h : PH} {τ : MS} {Q : Option Value → PH → Prop} {j : Nat} (hj : j ≤ 4) (q : RM h τ) (k : ∀ h', FR (sI h 25 0 0) h' → RM h' τ → Q (some (.int (if j < 4 then τ.1 (16 + j) else nI τ.2.2.1.length))) h') : WP X mX11_count 0 0 0 (en 2 [.ref 25, .int (nI j)]) [] h Q := by
  refine w_aload_n dX11_count_0 rfl rfl ?_
  refine w_iload_n dX11_count_1 rfl rfl ?_
  refine w_if_lt (tgt := 10) dX11_count_2 (by decide) (fun c_2 => absurd c_2 (nI_pos (n := j) (by omega))) (fun c_2 => ?_)
  refine w_iload_n dX11_count_5 rfl rfl ?_
  refine w_iconst dX11_count_6 (v := 4) (by decide) ?_
  refine w_icmp_le (tgt := 14) dX11_count_7 (by decide) (fun c_7 => ?_) (fun c_7 => absurd c_7 (not_not_intro (nI_le (b := 4) hj (by decide))))
  refine w_iconst dX11_count_14 (v := 0) (by decide) ?_
  refine y_thr q dX11_count_15 fX11_60 (fun f1 q1 => ?_)
  refine w_iload_n dX11_count_18 rfl rfl ?_
  refine w_if_ne (tgt := 29) dX11_count_19 (by decide) (fun c_19 => ?_) (fun c_19 => ?_)
  · rw [show (0 : Int32) = nI 0 from rfl, nI_eq (by omega) (by decide)] at c_19
    refine w_iload_n dX11_count_29 rfl rfl ?_
    refine w_iconst dX11_count_30 (v := 1) (by decide) ?_
    refine w_icmp_ne (tgt := 41) dX11_count_31 (by decide) (fun c_31 => ?_) (fun c_31 => ?_)
    · rw [show (1 : Int32) = nI 1 from rfl, nI_eq (by omega) (by decide)] at c_31
      refine w_iload_n dX11_count_41 rfl rfl ?_
      refine w_iconst dX11_count_42 (v := 2) (by decide) ?_
      refine w_icmp_ne (tgt := 53) dX11_count_43 (by decide) (fun c_43 => ?_) (fun c_43 => ?_)
      · rw [show (2 : Int32) = nI 2 from rfl, nI_eq (by omega) (by decide)] at c_43
        refine w_iload_n dX11_count_53 rfl rfl ?_
        refine w_iconst dX11_count_54 (v := 3) (by decide) ?_
        refine w_icmp_ne (tgt := 65) dX11_count_55 (by decide) (fun c_55 => ?_) (fun c_55 => ?_)
        · rw [show (3 : Int32) = nI 3 from rfl, nI_eq (by omega) (by decide)] at c_55
          refine w_iload_n dX11_count_65 rfl rfl ?_
          refine w_iconst dX11_count_66 (v := 4) (by decide) ?_
          refine w_icmp_ne (tgt := 77) dX11_count_67 (by decide) (fun c_67 => absurd c_67 (not_not_intro (show nI j = 4 by rw [show j = 4 by omega]; rfl))) (fun c_67 => ?_)
          refine w_aload_n dX11_count_70 rfl rfl ?_
          refine w_gi q1.1 dX11_count_71 fX11_84 rfl rfl (by decide) ?_
          refine w_goto (tgt := 78) dX11_count_74 (by decide) ?_
          refine w_iret dX11_count_78 (fun _ e => by cases e; rfl) ?_
          rw [if_neg (by omega), ← q1.2.2.1.1] at k; exact k _ f1 q1
        · rw [show (3 : Int32) = nI 3 from rfl, nI_eq (by omega) (by decide)] at c_55
          refine w_aload_n dX11_count_58 rfl rfl ?_
          refine y_get (j := 19) q1 dX11_count_59 fX11_174 (by decide) rfl ?_
          refine w_goto (tgt := 78) dX11_count_62 (by decide) ?_
          refine w_iret dX11_count_78 (fun _ e => by cases e; rfl) ?_
          obtain rfl : j = 3 := by omega
          rw [if_pos (by decide)] at k; exact k _ f1 q1
      · rw [show (2 : Int32) = nI 2 from rfl, nI_eq (by omega) (by decide)] at c_43
        refine w_aload_n dX11_count_46 rfl rfl ?_
        refine y_get (j := 18) q1 dX11_count_47 fX11_132 (by decide) rfl ?_
        refine w_goto (tgt := 78) dX11_count_50 (by decide) ?_
        refine w_iret dX11_count_78 (fun _ e => by cases e; rfl) ?_
        obtain rfl : j = 2 := by omega
        rw [if_pos (by decide)] at k; exact k _ f1 q1
    · rw [show (1 : Int32) = nI 1 from rfl, nI_eq (by omega) (by decide)] at c_31
      refine w_aload_n dX11_count_34 rfl rfl ?_
      refine y_get (j := 17) q1 dX11_count_35 fX11_141 (by decide) rfl ?_
      refine w_goto (tgt := 78) dX11_count_38 (by decide) ?_
      refine w_iret dX11_count_78 (fun _ e => by cases e; rfl) ?_
      obtain rfl : j = 1 := by omega
      rw [if_pos (by decide)] at k; exact k _ f1 q1
  · rw [show (0 : Int32) = nI 0 from rfl, nI_eq (by omega) (by decide)] at c_19
    refine w_aload_n dX11_count_22 rfl rfl ?_
    refine y_get (j := 16) q1 dX11_count_23 fX11_138 (by decide) rfl ?_
    refine w_goto (tgt := 78) dX11_count_26 (by decide) ?_
    refine w_iret dX11_count_78 (fun _ e => by cases e; rfl) ?_
    obtain rfl : j = 0 := by omega
    rw [if_pos (by decide)] at k; exact k _ f1 q1

set_option maxRecDepth 20000 in
set_option maxHeartbeats 4000000 in
/-- count(what), refused -/
theorem T_mcntX {X : Nat × (Nat → Int32)} {h : PH} {τ : MS} {Q : Option Value → PH → Prop} {i : Int32} (hb : i < 0 ∨ ¬ i ≤ 4) (q : RM h τ) (k : ∀ r h', FR (sI h 25 0 1) h' → RM h' τ → Q (some (.int r)) h') : WP X mX11_count 0 0 0 (en 2 [.ref 25, .int i]) [] h Q := by
  refine w_aload_n dX11_count_0 rfl rfl ?_
  refine w_iload_n dX11_count_1 rfl rfl ?_
  refine w_if_lt (tgt := 10) dX11_count_2 (by decide) (fun c_2 => ?_) (fun c_2 => ?_)
  · refine w_iconst dX11_count_10 (v := 1) (by decide) ?_
    refine w_goto (tgt := 15) dX11_count_11 (by decide) ?_
    refine y_thr q dX11_count_15 fX11_60 (fun f1 q1 => ?_)
    refine w_iload_n dX11_count_18 rfl rfl ?_
    refine w_if_ne (tgt := 29) dX11_count_19 (by decide) (fun c_19 => ?_) (fun c_19 => ?_)
    · refine w_iload_n dX11_count_29 rfl rfl ?_
      refine w_iconst dX11_count_30 (v := 1) (by decide) ?_
      refine w_icmp_ne (tgt := 41) dX11_count_31 (by decide) (fun c_31 => ?_) (fun c_31 => ?_)
      · refine w_iload_n dX11_count_41 rfl rfl ?_
        refine w_iconst dX11_count_42 (v := 2) (by decide) ?_
        refine w_icmp_ne (tgt := 53) dX11_count_43 (by decide) (fun c_43 => ?_) (fun c_43 => ?_)
        · refine w_iload_n dX11_count_53 rfl rfl ?_
          refine w_iconst dX11_count_54 (v := 3) (by decide) ?_
          refine w_icmp_ne (tgt := 65) dX11_count_55 (by decide) (fun c_55 => ?_) (fun c_55 => ?_)
          · refine w_iload_n dX11_count_65 rfl rfl ?_
            refine w_iconst dX11_count_66 (v := 4) (by decide) ?_
            refine w_icmp_ne (tgt := 77) dX11_count_67 (by decide) (fun c_67 => ?_) (fun c_67 => ?_)
            · refine w_iconst dX11_count_77 (v := 0) (by decide) ?_
              refine w_iret dX11_count_78 (fun _ e => by cases e; rfl) ?_
              exact k _ _ f1 q1
            · refine w_aload_n dX11_count_70 rfl rfl ?_
              refine w_gi q1.1 dX11_count_71 fX11_84 rfl rfl (by decide) ?_
              refine w_goto (tgt := 78) dX11_count_74 (by decide) ?_
              refine w_iret dX11_count_78 (fun _ e => by cases e; rfl) ?_
              exact k _ _ f1 q1
          · refine w_aload_n dX11_count_58 rfl rfl ?_
            refine y_get (j := 19) q1 dX11_count_59 fX11_174 (by decide) rfl ?_
            refine w_goto (tgt := 78) dX11_count_62 (by decide) ?_
            refine w_iret dX11_count_78 (fun _ e => by cases e; rfl) ?_
            exact k _ _ f1 q1
        · refine w_aload_n dX11_count_46 rfl rfl ?_
          refine y_get (j := 18) q1 dX11_count_47 fX11_132 (by decide) rfl ?_
          refine w_goto (tgt := 78) dX11_count_50 (by decide) ?_
          refine w_iret dX11_count_78 (fun _ e => by cases e; rfl) ?_
          exact k _ _ f1 q1
      · refine w_aload_n dX11_count_34 rfl rfl ?_
        refine y_get (j := 17) q1 dX11_count_35 fX11_141 (by decide) rfl ?_
        refine w_goto (tgt := 78) dX11_count_38 (by decide) ?_
        refine w_iret dX11_count_78 (fun _ e => by cases e; rfl) ?_
        exact k _ _ f1 q1
    · refine w_aload_n dX11_count_22 rfl rfl ?_
      refine y_get (j := 16) q1 dX11_count_23 fX11_138 (by decide) rfl ?_
      refine w_goto (tgt := 78) dX11_count_26 (by decide) ?_
      refine w_iret dX11_count_78 (fun _ e => by cases e; rfl) ?_
      exact k _ _ f1 q1
  · refine w_iload_n dX11_count_5 rfl rfl ?_
    refine w_iconst dX11_count_6 (v := 4) (by decide) ?_
    refine w_icmp_le (tgt := 14) dX11_count_7 (by decide) (fun c_7 => absurd c_7 (hb.resolve_left c_2)) (fun c_7 => ?_)
    refine w_iconst dX11_count_10 (v := 1) (by decide) ?_
    refine w_goto (tgt := 15) dX11_count_11 (by decide) ?_
    refine y_thr q dX11_count_15 fX11_60 (fun f2 q2 => ?_)
    refine w_iload_n dX11_count_18 rfl rfl ?_
    refine w_if_ne (tgt := 29) dX11_count_19 (by decide) (fun c_19 => ?_) (fun c_19 => ?_)
    · refine w_iload_n dX11_count_29 rfl rfl ?_
      refine w_iconst dX11_count_30 (v := 1) (by decide) ?_
      refine w_icmp_ne (tgt := 41) dX11_count_31 (by decide) (fun c_31 => ?_) (fun c_31 => ?_)
      · refine w_iload_n dX11_count_41 rfl rfl ?_
        refine w_iconst dX11_count_42 (v := 2) (by decide) ?_
        refine w_icmp_ne (tgt := 53) dX11_count_43 (by decide) (fun c_43 => ?_) (fun c_43 => ?_)
        · refine w_iload_n dX11_count_53 rfl rfl ?_
          refine w_iconst dX11_count_54 (v := 3) (by decide) ?_
          refine w_icmp_ne (tgt := 65) dX11_count_55 (by decide) (fun c_55 => ?_) (fun c_55 => ?_)
          · refine w_iload_n dX11_count_65 rfl rfl ?_
            refine w_iconst dX11_count_66 (v := 4) (by decide) ?_
            refine w_icmp_ne (tgt := 77) dX11_count_67 (by decide) (fun c_67 => ?_) (fun c_67 => ?_)
            · refine w_iconst dX11_count_77 (v := 0) (by decide) ?_
              refine w_iret dX11_count_78 (fun _ e => by cases e; rfl) ?_
              exact k _ _ f2 q2
            · refine w_aload_n dX11_count_70 rfl rfl ?_
              refine w_gi q2.1 dX11_count_71 fX11_84 rfl rfl (by decide) ?_
              refine w_goto (tgt := 78) dX11_count_74 (by decide) ?_
              refine w_iret dX11_count_78 (fun _ e => by cases e; rfl) ?_
              exact k _ _ f2 q2
          · refine w_aload_n dX11_count_58 rfl rfl ?_
            refine y_get (j := 19) q2 dX11_count_59 fX11_174 (by decide) rfl ?_
            refine w_goto (tgt := 78) dX11_count_62 (by decide) ?_
            refine w_iret dX11_count_78 (fun _ e => by cases e; rfl) ?_
            exact k _ _ f2 q2
        · refine w_aload_n dX11_count_46 rfl rfl ?_
          refine y_get (j := 18) q2 dX11_count_47 fX11_132 (by decide) rfl ?_
          refine w_goto (tgt := 78) dX11_count_50 (by decide) ?_
          refine w_iret dX11_count_78 (fun _ e => by cases e; rfl) ?_
          exact k _ _ f2 q2
      · refine w_aload_n dX11_count_34 rfl rfl ?_
        refine y_get (j := 17) q2 dX11_count_35 fX11_141 (by decide) rfl ?_
        refine w_goto (tgt := 78) dX11_count_38 (by decide) ?_
        refine w_iret dX11_count_78 (fun _ e => by cases e; rfl) ?_
        exact k _ _ f2 q2
    · refine w_aload_n dX11_count_22 rfl rfl ?_
      refine y_get (j := 16) q2 dX11_count_23 fX11_138 (by decide) rfl ?_
      refine w_goto (tgt := 78) dX11_count_26 (by decide) ?_
      refine w_iret dX11_count_78 (fun _ e => by cases e; rfl) ?_
      exact k _ _ f2 q2

set_option maxRecDepth 20000 in
set_option maxHeartbeats 4000000 in
/-- print(i) -/
theorem T_mprint {X : Nat × (Nat → Int32)} {h : PH} {τ : MS} {Q : Option Value → PH → Prop} {i : Int32} (q : RM h τ) (k : ∀ h', FR (sI h 25 0 0) h' → RM h' τ → Q (some (.int (if i < 0 then -1 else (τ.2.2.2[i.toNatClampNeg]?).getD (-1)))) h') : WP X mX11_print 0 0 0 (en 2 [.ref 25, .int i]) [] h Q := by
  refine w_aload_n dX11_print_0 rfl rfl ?_
  refine w_iconst dX11_print_1 (v := 0) (by decide) ?_
  refine y_thr q dX11_print_2 fX11_60 (fun f1 q1 => ?_)
  refine w_iload_n dX11_print_5 rfl rfl ?_
  refine w_if_lt (tgt := 17) dX11_print_6 (by decide) (fun c_6 => ?_) (fun c_6 => ?_)
  · refine w_iconst dX11_print_17 (v := (-1)) (by decide) ?_
    refine w_goto (tgt := 27) dX11_print_18 (by decide) ?_
    refine w_iret dX11_print_27 (fun _ e => by cases e; rfl) ?_
    rw [if_pos c_6] at k; exact k _ f1 q1
  · refine w_iload_n dX11_print_9 rfl rfl ?_
    refine w_aload_n dX11_print_10 rfl rfl ?_
    refine w_gi q1.1 dX11_print_11 fX11_107 rfl rfl (by decide) ?_
    refine w_icmp_lt (tgt := 21) dX11_print_14 (by decide) (fun c_14 => ?_) (fun c_14 => ?_)
    · obtain ⟨j, hj, rfl⟩ := nI_of c_6
      have hl := q1.2.2.2.1.2.1
      rw [q1.2.2.2.1.1, nI_ltI (by omega) (by omega)] at c_14
      refine w_aload_n dX11_print_21 rfl rfl ?_
      refine w_gs (b := 29) q1.1 dX11_print_22 fX11_20 (by decide) rfl rfl (by decide) ?_
      refine w_iload_n dX11_print_25 rfl rfl ?_
      refine w_iaload dX11_print_26 rfl (q1.1.lt (by decide)) (vp_in_nI (show j < 4000 by omega) (by decide)) ?_
      refine w_iret dX11_print_27 (fun _ e => by cases e; rfl) ?_
      rw [if_neg c_6, nI_clamp (by omega), List.getElem?_eq_getElem c_14] at k
      rw [nI_clamp (by omega), q1.2.2.2.1.2.2 j _ (List.getElem?_eq_getElem c_14)]; exact k _ f1 q1
    · obtain ⟨j, hj, rfl⟩ := nI_of c_6
      have hl := q1.2.2.2.1.2.1
      rw [q1.2.2.2.1.1, nI_ltI (by omega) (by omega)] at c_14
      refine w_iconst dX11_print_17 (v := (-1)) (by decide) ?_
      refine w_goto (tgt := 27) dX11_print_18 (by decide) ?_
      refine w_iret dX11_print_27 (fun _ e => by cases e; rfl) ?_
      rw [if_neg c_6, nI_clamp (by omega), List.getElem?_eq_none (by omega)] at k; exact k _ f1 q1

set_option maxRecDepth 20000 in
set_option maxHeartbeats 4000000 in
/-- thrown() -/
theorem T_mthrown {X : Nat × (Nat → Int32)} {h : PH} {τ : MS} {Q : Option Value → PH → Prop} (S : St h) (k : Q (some (.int (hI h 25 0))) h) : WP X mX11_thrown 0 0 0 (en 1 [.ref 25]) [] h Q := by
  refine w_aload_n dX11_thrown_0 rfl rfl ?_
  refine w_gi S dX11_thrown_1 fX11_60 rfl rfl (by decide) ?_
  refine w_iret dX11_thrown_4 (fun _ e => by cases e; rfl) ?_
  exact k

def mky (τ : MS) (b : Int32) : MS := if τ.2.2.1.length < 100 then (if τ.1 12 = 2 then sG (sK τ (τ.2.2.1 ++ [b &&& 255])) 12 0 else sK τ (τ.2.2.1 ++ [b &&& 255])) else τ
theorem RM.ka {h : PH} {τ : MS} {b : Int32} (q : RM h τ) (hl : τ.2.2.1.length < 100) {j : Nat} {w : Int32} (hj : j = τ.2.2.1.length) (hw : w = nI (τ.2.2.1.length + 1)) : RM (sI (sI h 28 j b) 25 11 w) (sK τ (τ.2.2.1 ++ [b])) := by
  obtain ⟨q1, q2, q3, q4, q5, q6⟩ := q
  refine ⟨q1.i.i, q2, ⟨?_, ?_, fun i x hx => ?_⟩, ⟨(rI_k (by decide)).trans ((rI_a (by decide)).trans q4.1), q4.2.1, fun i x hx => q4.2.2 i x hx⟩, q5, fun r hr => ?_⟩
  · show hI (sI (sI h 28 j b) 25 11 w) 25 11 = nI (τ.2.2.1 ++ [b]).length; rw [rI_s, hw, List.length_append]; rfl
  · show (τ.2.2.1 ++ [b]).length ≤ 100; rw [List.length_append]; show _ + 1 ≤ 100; omega
  · have hx : (τ.2.2.1 ++ [b])[i]? = some x := hx
    show hI (sI h 28 j b) 28 i = x
    by_cases c : i < τ.2.2.1.length
    · rw [List.getElem?_append_left c] at hx
      rw [rI_k (by omega)]
      exact q3.2.2 i x hx
    · rw [List.getElem?_append_right (by omega)] at hx
      have e2 : i - τ.2.2.1.length = 0 := by
        cases e3 : i - τ.2.2.1.length with
        | zero => rfl
        | succ n => rw [e3] at hx; simp at hx
      rw [e2] at hx
      rw [show i = j by omega, rI_s]
      simpa using hx
  · rw [rI_k (fm_in hr).1, rI_a (by decide)]; exact q6 r hr
set_option maxRecDepth 20000 in
set_option maxHeartbeats 4000000 in
/-- key(k) -/
theorem T_mkey {X : Nat × (Nat → Int32)} {h : PH} {τ : MS} {Q : Option Value → PH → Prop} {b : Int32} (q : RM h τ) (k : ∀ h', FR (sI h 25 0 0) h' → RM h' (mky τ b) → Q (some (.int (if τ.2.2.1.length < 100 then 1 else 0))) h') : WP X mX11_key 0 0 0 (en 2 [.ref 25, .int b]) [] h Q := by
  refine w_aload_n dX11_key_0 rfl rfl ?_
  refine w_iconst dX11_key_1 (v := 0) (by decide) ?_
  refine y_thr q dX11_key_2 fX11_60 (fun f1 q1 => ?_)
  refine w_aload_n dX11_key_5 rfl rfl ?_
  refine w_gi q1.1 dX11_key_6 fX11_84 rfl rfl (by decide) ?_
  refine w_bipush dX11_key_9 (v := 100) (by decide) ?_
  refine w_icmp_ne (tgt := 16) dX11_key_11 (by decide) (fun c_11 => ?_) (fun c_11 => ?_)
  · have hl := q1.2.2.1.2.1
    rw [q1.2.2.1.1, show (100 : Int32) = nI 100 from rfl, nI_eq (by omega) (by decide)] at c_11
    refine w_aload_n dX11_key_16 rfl rfl ?_
    refine w_gs (b := 28) q1.1 dX11_key_17 fX11_17 (by decide) rfl rfl (by decide) ?_
    refine w_aload_n dX11_key_20 rfl rfl ?_
    refine w_gi q1.1 dX11_key_21 fX11_84 rfl rfl (by decide) ?_
    refine w_iload_n dX11_key_24 rfl rfl ?_
    refine w_sipush dX11_key_25 (v := 255) (by decide) ?_
    refine w_iand dX11_key_28 ?_
    refine w_iastore dX11_key_29 rfl (q1.1.lt (by decide)) (by rw [q1.2.2.1.1]; exact vp_in_nI (show _ < 100 by omega) (by decide)) ?_
    refine w_aload_n dX11_key_30 rfl rfl ?_
    refine w_dup dX11_key_31 rfl ?_
    refine w_gi q1.1 dX11_key_32 fX11_84 rfl rfl (by decide) ?_
    refine w_iconst dX11_key_35 (v := 1) (by decide) ?_
    refine w_iadd dX11_key_36 ?_
    refine w_pi q1.1 dX11_key_37 fX11_84 rfl rfl (by decide) ?_
    have f2 := (f1.a (a := 28) (k := (hI (sI h 25 0 0) 25 11).toNatClampNeg) (v := b &&& 255) (by decide)).f (k := 11) (v := hI (sI (sI h 25 0 0) 28 (hI (sI h 25 0 0) 25 11).toNatClampNeg (b &&& 255)) 25 11 + 1) (by decide)
    have q2 := RM.ka (b := b &&& 255) q1 (by omega) (j := (hI (sI h 25 0 0) 25 11).toNatClampNeg) (w := hI (sI (sI h 25 0 0) 28 (hI (sI h 25 0 0) 25 11).toNatClampNeg (b &&& 255)) 25 11 + 1) (by rw [q1.2.2.1.1]; exact nI_clamp (by omega)) (by rw [rI_a (by decide), q1.2.2.1.1, nI_1])
    refine w_aload_n dX11_key_40 rfl rfl ?_
    refine y_get (j := 12) q2 dX11_key_41 fX11_74 (by decide) rfl ?_
    refine w_iconst dX11_key_44 (v := 2) (by decide) ?_
    refine w_icmp_ne (tgt := 53) dX11_key_45 (by decide) (fun c_45 => ?_) (fun c_45 => ?_)
    · refine w_iconst dX11_key_53 (v := 1) (by decide) ?_
      refine w_iret dX11_key_54 (fun _ e => by cases e; decide) ?_
      simp only [mky, if_pos (show τ.2.2.1.length < 100 by omega), if_neg (show ¬ τ.1 12 = 2 from c_45)] at k; exact k _ f2 q2
    · refine w_aload_n dX11_key_48 rfl rfl ?_
      refine w_iconst dX11_key_49 (v := 0) (by decide) ?_
      refine y_put (j := 12) f2 q2 dX11_key_50 fX11_74 (by decide) rfl (fun h2 f2 q2 => ?_)
      refine w_iconst dX11_key_53 (v := 1) (by decide) ?_
      refine w_iret dX11_key_54 (fun _ e => by cases e; decide) ?_
      simp only [mky, if_pos (show τ.2.2.1.length < 100 by omega), if_pos (show τ.1 12 = 2 from c_45)] at k; exact k _ f2 q2
  · have hl := q1.2.2.1.2.1
    rw [q1.2.2.1.1, show (100 : Int32) = nI 100 from rfl, nI_eq (by omega) (by decide)] at c_11
    refine w_iconst dX11_key_14 (v := 0) (by decide) ?_
    refine w_iret dX11_key_15 (fun _ e => by cases e; decide) ?_
    rw [mky, if_neg (by omega), if_neg (by omega)] at k; exact k _ f1 q1

