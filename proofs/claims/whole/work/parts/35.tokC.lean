/-! TOKENS of the class: skipping, numbers, names -/
set_option maxRecDepth 20000 in
set_option maxHeartbeats 4000000 in
theorem L_sk3 {X : Nat × (Nat → Int32)} {h0 : PH} {Q : Option Value → PH → Prop} {T : List Int32} (hT : T.length ≤ 4000) {b : Int32} : ∀ (m p : Nat) (h : PH) (κ : KS), p + m = T.length → κ.1 1 = nI p → Fk h0 h → RK h T κ → (∀ h', Fk h0 h' → RK h' T (kG κ 1 (nI (skC T m p))) → Q none h') → WP X mX8_skipNothings 1 21 81 [some (.ref 12), some (.int b)] [] h Q := by
  intro m
  induction m with
  | zero =>
    intro p h κ hn hp f q k
    rw [skC, kG_id hp] at k
    refine w_aload_n dX8_skipNothings_81 rfl rfl ?_
    refine kx_get1 q dX8_skipNothings_82 fX8_15 ?_
    refine w_aload_n dX8_skipNothings_85 rfl rfl ?_
    refine w_gs (b := 1) q.1 dX8_skipNothings_86 fX8_9 (by decide) rfl rfl (by decide) ?_
    refine kx_len q dX8_skipNothings_89 fX8_19 ?_
    refine w_icmp_ge (tgt := 124) dX8_skipNothings_92 (by decide) (fun c_92 => ?_) (fun c_92 => absurd c_92 (not_not_intro (by rw [hp]; exact nI_le (by omega) (by omega))))
    refine w_vret dX8_skipNothings_124 ?_
    exact k _ f q
  | succ m ih =>
    intro p h κ hn hp f q k
    refine w_aload_n dX8_skipNothings_81 rfl rfl ?_
    refine kx_get1 q dX8_skipNothings_82 fX8_15 ?_
    refine w_aload_n dX8_skipNothings_85 rfl rfl ?_
    refine w_gs (b := 1) q.1 dX8_skipNothings_86 fX8_9 (by decide) rfl rfl (by decide) ?_
    refine kx_len q dX8_skipNothings_89 fX8_19 ?_
    refine w_icmp_ge (tgt := 124) dX8_skipNothings_92 (by decide) (fun c_92 => absurd c_92 (by rw [hp]; exact nI_ge (by omega) (by omega))) (fun c_92 => ?_)
    refine w_aload_n dX8_skipNothings_95 rfl rfl ?_
    refine w_gs (b := 1) q.1 dX8_skipNothings_96 fX8_9 (by decide) rfl rfl (by decide) ?_
    refine w_aload_n dX8_skipNothings_99 rfl rfl ?_
    refine kx_get1 q dX8_skipNothings_100 fX8_15 ?_
    refine w_v1 (d2 := 0) (L2 := 0) dX8_skipNothings_103 vX8_30 rfl (q.1.lt (by decide)) rfl (by decide) (Nat.le_of_ble_eq_true rfl) (by decide) (by decide) ?_
    refine T_byte1 q.1 q.2.1 ?_
    refine k_i rfl ?_
    refine w_bipush dX8_skipNothings_106 (v := 10) (by decide) ?_
    refine w_icmp_eq (tgt := 124) dX8_skipNothings_108 (by decide) (fun c_108 => ?_) (fun c_108 => ?_)
    · rw [hp, bA_T (by omega)] at c_108
      refine w_vret dX8_skipNothings_124 ?_
      rw [skC, if_pos c_108, kG_id hp] at k; exact k _ f q
    · rw [hp, bA_T (by omega)] at c_108
      refine w_aload_n dX8_skipNothings_111 rfl rfl ?_
      refine w_dup dX8_skipNothings_112 rfl ?_
      refine kx_get1 q dX8_skipNothings_113 fX8_15 ?_
      refine w_iconst dX8_skipNothings_116 (v := 1) (by decide) ?_
      refine w_iadd dX8_skipNothings_117 ?_
      refine kx_put1 f q dX8_skipNothings_118 fX8_15 (fun h1 f1 q1 => ?_)
      refine w_goto (tgt := 81) dX8_skipNothings_121 (by decide) ?_
      rw [skC, if_neg c_108] at k
      exact ih (p + 1) _ _ (by omega) (by rw [kG_s, hp, nI_1]) f1 q1 (by rw [kG_kG]; exact k)

set_option maxRecDepth 20000 in
set_option maxHeartbeats 4000000 in
theorem L_sk2 {X : Nat × (Nat → Int32)} {h0 : PH} {Q : Option Value → PH → Prop} {T : List Int32} {h : PH} {κ : KS} {b : Int32} {p : Nat} (hT : T.length ≤ 4000) (hb : b = bT T p) (hp2 : p ≤ T.length) (hp : κ.1 1 = nI p) (f : Fk h0 h) (q : RK h T κ) (k : ∀ h', Fk h0 h' → RK h' T (kG κ 1 (nI (if bT T p = 59 then skC T (T.length - p) p else p))) → Q none h') : WP X mX8_skipNothings 1 21 75 [some (.ref 12), some (.int b)] [] h Q := by
  subst hb
  refine w_iload_n dX8_skipNothings_75 rfl rfl ?_
  refine w_bipush dX8_skipNothings_76 (v := 59) (by decide) ?_
  refine w_icmp_ne (tgt := 124) dX8_skipNothings_78 (by decide) (fun c_78 => ?_) (fun c_78 => ?_)
  · refine w_vret dX8_skipNothings_124 ?_
    rw [if_neg c_78, kG_id hp] at k; exact k _ f q
  · rw [if_pos c_78] at k; exact L_sk3 hT (T.length - p) p _ _ (by omega) hp f q k

set_option maxRecDepth 20000 in
set_option maxHeartbeats 4000000 in
theorem L_sk1 {X : Nat × (Nat → Int32)} {h0 : PH} {Q : Option Value → PH → Prop} {T : List Int32} (hT : T.length ≤ 4000) : ∀ (m p : Nat) (b : Int32) (h : PH) (κ : KS), p + m = T.length → b = bT T p → κ.1 1 = nI p → Fk h0 h → RK h T κ → (∀ h', Fk h0 h' → RK h' T (kG κ 1 (nI (if bT T (skB T m p) = 59 then skC T (T.length - skB T m p) (skB T m p) else skB T m p))) → Q none h') → WP X mX8_skipNothings 1 21 12 [some (.ref 12), some (.int b)] [] h Q := by
  intro m
  induction m with
  | zero =>
    intro p b h κ hn hb hp f q k
    refine w_aload_n dX8_skipNothings_12 rfl rfl ?_
    refine kx_get1 q dX8_skipNothings_13 fX8_15 ?_
    refine w_aload_n dX8_skipNothings_16 rfl rfl ?_
    refine w_gs (b := 1) q.1 dX8_skipNothings_17 fX8_9 (by decide) rfl rfl (by decide) ?_
    refine kx_len q dX8_skipNothings_20 fX8_19 ?_
    refine w_icmp_ge (tgt := 75) dX8_skipNothings_23 (by decide) (fun c_23 => ?_) (fun c_23 => absurd c_23 (not_not_intro (by rw [hp]; exact nI_le (by omega) (by omega))))
    exact L_sk2 hT hb (by omega) hp f q k
  | succ m ih =>
    intro p b h κ hn hb hp f q k
    subst hb
    refine w_aload_n dX8_skipNothings_12 rfl rfl ?_
    refine kx_get1 q dX8_skipNothings_13 fX8_15 ?_
    refine w_aload_n dX8_skipNothings_16 rfl rfl ?_
    refine w_gs (b := 1) q.1 dX8_skipNothings_17 fX8_9 (by decide) rfl rfl (by decide) ?_
    refine kx_len q dX8_skipNothings_20 fX8_19 ?_
    refine w_icmp_ge (tgt := 75) dX8_skipNothings_23 (by decide) (fun c_23 => absurd c_23 (by rw [hp]; exact nI_ge (by omega) (by omega))) (fun c_23 => ?_)
    refine w_iload_n dX8_skipNothings_26 rfl rfl ?_
    refine w_bipush dX8_skipNothings_27 (v := 9) (by decide) ?_
    refine w_icmp_eq (tgt := 50) dX8_skipNothings_29 (by decide) (fun c_29 => ?_) (fun c_29 => ?_)
    · refine w_aload_n dX8_skipNothings_50 rfl rfl ?_
      refine w_dup dX8_skipNothings_51 rfl ?_
      refine kx_get1 q dX8_skipNothings_52 fX8_15 ?_
      refine w_iconst dX8_skipNothings_55 (v := 1) (by decide) ?_
      refine w_iadd dX8_skipNothings_56 ?_
      refine kx_put1 f q dX8_skipNothings_57 fX8_15 (fun h1 f1 q1 => ?_)
      refine w_aload_n dX8_skipNothings_60 rfl rfl ?_
      refine w_gs (b := 1) q1.1 dX8_skipNothings_61 fX8_9 (by decide) rfl rfl (by decide) ?_
      refine w_aload_n dX8_skipNothings_64 rfl rfl ?_
      refine kx_get1 q1 dX8_skipNothings_65 fX8_15 ?_
      refine w_v1 (d2 := 0) (L2 := 0) dX8_skipNothings_68 vX8_30 rfl (q1.1.lt (by decide)) rfl (by decide) (Nat.le_of_ble_eq_true rfl) (by decide) (by decide) ?_
      refine T_byte1 q1.1 q1.2.1 ?_
      refine k_i rfl ?_
      refine w_istore_n dX8_skipNothings_71 rfl (by decide) ?_
      refine w_goto (tgt := 12) dX8_skipNothings_72 (by decide) ?_
      rw [skB] at k; simp only [if_neg c_23, if_pos c_29] at k; exact ih (p + 1) _ _ _ (by omega) (by rw [kG_s, hp, nI_1]; exact bA_T (by omega)) (by rw [kG_s, hp, nI_1]) f1 q1 (by rw [kG_kG]; exact k)
    · refine w_iload_n dX8_skipNothings_32 rfl rfl ?_
      refine w_bipush dX8_skipNothings_33 (v := 13) (by decide) ?_
      refine w_icmp_eq (tgt := 50) dX8_skipNothings_35 (by decide) (fun c_35 => ?_) (fun c_35 => ?_)
      · refine w_aload_n dX8_skipNothings_50 rfl rfl ?_
        refine w_dup dX8_skipNothings_51 rfl ?_
        refine kx_get1 q dX8_skipNothings_52 fX8_15 ?_
        refine w_iconst dX8_skipNothings_55 (v := 1) (by decide) ?_
        refine w_iadd dX8_skipNothings_56 ?_
        refine kx_put1 f q dX8_skipNothings_57 fX8_15 (fun h2 f2 q2 => ?_)
        refine w_aload_n dX8_skipNothings_60 rfl rfl ?_
        refine w_gs (b := 1) q2.1 dX8_skipNothings_61 fX8_9 (by decide) rfl rfl (by decide) ?_
        refine w_aload_n dX8_skipNothings_64 rfl rfl ?_
        refine kx_get1 q2 dX8_skipNothings_65 fX8_15 ?_
        refine w_v1 (d2 := 0) (L2 := 0) dX8_skipNothings_68 vX8_30 rfl (q2.1.lt (by decide)) rfl (by decide) (Nat.le_of_ble_eq_true rfl) (by decide) (by decide) ?_
        refine T_byte1 q2.1 q2.2.1 ?_
        refine k_i rfl ?_
        refine w_istore_n dX8_skipNothings_71 rfl (by decide) ?_
        refine w_goto (tgt := 12) dX8_skipNothings_72 (by decide) ?_
        rw [skB] at k; simp only [if_neg c_23, if_neg c_29, if_pos c_35] at k; exact ih (p + 1) _ _ _ (by omega) (by rw [kG_s, hp, nI_1]; exact bA_T (by omega)) (by rw [kG_s, hp, nI_1]) f2 q2 (by rw [kG_kG]; exact k)
      · refine w_iload_n dX8_skipNothings_38 rfl rfl ?_
        refine w_bipush dX8_skipNothings_39 (v := 32) (by decide) ?_
        refine w_icmp_eq (tgt := 50) dX8_skipNothings_41 (by decide) (fun c_41 => ?_) (fun c_41 => ?_)
        · refine w_aload_n dX8_skipNothings_50 rfl rfl ?_
          refine w_dup dX8_skipNothings_51 rfl ?_
          refine kx_get1 q dX8_skipNothings_52 fX8_15 ?_
          refine w_iconst dX8_skipNothings_55 (v := 1) (by decide) ?_
          refine w_iadd dX8_skipNothings_56 ?_
          refine kx_put1 f q dX8_skipNothings_57 fX8_15 (fun h3 f3 q3 => ?_)
          refine w_aload_n dX8_skipNothings_60 rfl rfl ?_
          refine w_gs (b := 1) q3.1 dX8_skipNothings_61 fX8_9 (by decide) rfl rfl (by decide) ?_
          refine w_aload_n dX8_skipNothings_64 rfl rfl ?_
          refine kx_get1 q3 dX8_skipNothings_65 fX8_15 ?_
          refine w_v1 (d2 := 0) (L2 := 0) dX8_skipNothings_68 vX8_30 rfl (q3.1.lt (by decide)) rfl (by decide) (Nat.le_of_ble_eq_true rfl) (by decide) (by decide) ?_
          refine T_byte1 q3.1 q3.2.1 ?_
          refine k_i rfl ?_
          refine w_istore_n dX8_skipNothings_71 rfl (by decide) ?_
          refine w_goto (tgt := 12) dX8_skipNothings_72 (by decide) ?_
          rw [skB] at k; simp only [if_neg c_23, if_neg c_29, if_neg c_35, if_pos c_41] at k; exact ih (p + 1) _ _ _ (by omega) (by rw [kG_s, hp, nI_1]; exact bA_T (by omega)) (by rw [kG_s, hp, nI_1]) f3 q3 (by rw [kG_kG]; exact k)
        · refine w_iload_n dX8_skipNothings_44 rfl rfl ?_
          refine w_bipush dX8_skipNothings_45 (v := 44) (by decide) ?_
          refine w_icmp_ne (tgt := 75) dX8_skipNothings_47 (by decide) (fun c_47 => ?_) (fun c_47 => ?_)
          · rw [skB] at k; simp only [if_neg c_23, if_neg c_29, if_neg c_35, if_neg c_41, if_neg c_47] at k; exact L_sk2 hT rfl (by omega) hp f q k
          · refine w_aload_n dX8_skipNothings_50 rfl rfl ?_
            refine w_dup dX8_skipNothings_51 rfl ?_
            refine kx_get1 q dX8_skipNothings_52 fX8_15 ?_
            refine w_iconst dX8_skipNothings_55 (v := 1) (by decide) ?_
            refine w_iadd dX8_skipNothings_56 ?_
            refine kx_put1 f q dX8_skipNothings_57 fX8_15 (fun h4 f4 q4 => ?_)
            refine w_aload_n dX8_skipNothings_60 rfl rfl ?_
            refine w_gs (b := 1) q4.1 dX8_skipNothings_61 fX8_9 (by decide) rfl rfl (by decide) ?_
            refine w_aload_n dX8_skipNothings_64 rfl rfl ?_
            refine kx_get1 q4 dX8_skipNothings_65 fX8_15 ?_
            refine w_v1 (d2 := 0) (L2 := 0) dX8_skipNothings_68 vX8_30 rfl (q4.1.lt (by decide)) rfl (by decide) (Nat.le_of_ble_eq_true rfl) (by decide) (by decide) ?_
            refine T_byte1 q4.1 q4.2.1 ?_
            refine k_i rfl ?_
            refine w_istore_n dX8_skipNothings_71 rfl (by decide) ?_
            refine w_goto (tgt := 12) dX8_skipNothings_72 (by decide) ?_
            rw [skB] at k; simp only [if_neg c_23, if_neg c_29, if_neg c_35, if_neg c_41, if_pos c_47] at k; exact ih (p + 1) _ _ _ (by omega) (by rw [kG_s, hp, nI_1]; exact bA_T (by omega)) (by rw [kG_s, hp, nI_1]) f4 q4 (by rw [kG_kG]; exact k)

set_option maxRecDepth 20000 in
set_option maxHeartbeats 4000000 in
/-- skipNothings() -/
theorem T_skip {X : Nat × (Nat → Int32)} {h0 h : PH} {Q : Option Value → PH → Prop} {T : List Int32} {κ : KS} {p : Nat} (hp : κ.1 1 = nI p) (hp2 : p ≤ T.length) (f : Fk h0 h) (q : RK h T κ) (k : ∀ h', Fk h0 h' → RK h' T (kG κ 1 (nI (nx T p))) → Q none h') : WP X mX8_skipNothings 1 21 0 (en 2 [.ref 12]) [] h Q := by
  refine w_aload_n dX8_skipNothings_0 rfl rfl ?_
  refine w_gs (b := 1) q.1 dX8_skipNothings_1 fX8_9 (by decide) rfl rfl (by decide) ?_
  refine w_aload_n dX8_skipNothings_4 rfl rfl ?_
  refine kx_get1 q dX8_skipNothings_5 fX8_15 ?_
  refine w_v1 (d2 := 0) (L2 := 0) dX8_skipNothings_8 vX8_30 rfl (q.1.lt (by decide)) rfl (by decide) (Nat.le_of_ble_eq_true rfl) (by decide) (by decide) ?_
  refine T_byte1 q.1 q.2.1 ?_
  refine k_i rfl ?_
  refine w_istore_n dX8_skipNothings_11 rfl (by decide) ?_
  exact L_sk1 q.2.1.2.1 (T.length - p) p _ _ _ (by omega) (by rw [hp]; exact bA_T (by have := q.2.1.2.1; omega)) hp f q k

set_option maxRecDepth 20000 in
set_option maxHeartbeats 4000000 in
/-- rewind() -/
theorem T_rewind {X : Nat × (Nat → Int32)} {h0 h : PH} {Q : Option Value → PH → Prop} {T : List Int32} {κ : KS} (f : Fk h0 h) (q : RK h T κ) (k : ∀ h', Fk h0 h' → RK h' T (kG κ 1 0) → Q none h') : WP X mX8_rewind 0 0 0 (en 1 [.ref 12]) [] h Q := by
  refine w_aload_n dX8_rewind_0 rfl rfl ?_
  refine w_iconst dX8_rewind_1 (v := 0) (by decide) ?_
  refine kx_put1 f q dX8_rewind_2 fX8_15 (fun h1 f1 q1 => ?_)
  refine w_vret dX8_rewind_5 ?_
  exact k _ f1 q1

set_option maxRecDepth 20000 in
set_option maxHeartbeats 4000000 in
/-- nextLine() -/
theorem T_nextL {X : Nat × (Nat → Int32)} {h0 h : PH} {Q : Option Value → PH → Prop} {T : List Int32} {κ : KS} {p : Nat} (hp : κ.1 1 = nI p) (hp2 : p ≤ T.length) (f : Fk h0 h) (q : RK h T κ) (k0 : T.length ≤ p → Q (some (.int 0)) h) (k : p < T.length → ∀ h', Fk h0 h' → RK h' T (kG κ 1 (nI (p + 1))) → Q (some (.int 1)) h') : WP X mX8_nextLine 0 0 0 (en 1 [.ref 12]) [] h Q := by
  refine w_aload_n dX8_nextLine_0 rfl rfl ?_
  refine kx_get1 q dX8_nextLine_1 fX8_15 ?_
  refine w_aload_n dX8_nextLine_4 rfl rfl ?_
  refine w_gs (b := 1) q.1 dX8_nextLine_5 fX8_9 (by decide) rfl rfl (by decide) ?_
  refine kx_len q dX8_nextLine_8 fX8_19 ?_
  refine w_icmp_lt (tgt := 16) dX8_nextLine_11 (by decide) (fun c_11 => ?_) (fun c_11 => ?_)
  · have hl := q.2.1.2.1
    rw [hp, nI_ltI (by omega) (by omega)] at c_11
    refine w_aload_n dX8_nextLine_16 rfl rfl ?_
    refine w_dup dX8_nextLine_17 rfl ?_
    refine kx_get1 q dX8_nextLine_18 fX8_15 ?_
    refine w_iconst dX8_nextLine_21 (v := 1) (by decide) ?_
    refine w_iadd dX8_nextLine_22 ?_
    refine kx_put1 f q dX8_nextLine_23 fX8_15 (fun h1 f1 q1 => ?_)
    refine w_iconst dX8_nextLine_26 (v := 1) (by decide) ?_
    refine w_iret dX8_nextLine_27 (fun _ e => by cases e; decide) ?_
    rw [hp, nI_1] at q1; exact k c_11 _ f1 q1
  · have hl := q.2.1.2.1
    rw [hp, nI_ltI (by omega) (by omega)] at c_11
    refine w_iconst dX8_nextLine_14 (v := 0) (by decide) ?_
    refine w_iret dX8_nextLine_15 (fun _ e => by cases e; decide) ?_
    exact k0 (by omega)

