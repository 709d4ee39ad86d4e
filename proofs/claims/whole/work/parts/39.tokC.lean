/-! TOKENS of the class: advance -/
theorem tx_q {T : List Int32} {m q : Nat} {l : List Int32} (a : bT T q = 34) : txS T (m + 1) q l = some (q + 1, l) := by rw [txS, if_pos a]
theorem tx_e {T : List Int32} {m q : Nat} {l : List Int32} (a : ¬ bT T q = 34) (b : bT T q = 92) (c : mnI (bT T (q + 1)) = -1) : txS T (m + 1) q l = none := by rw [txS, if_neg a, if_pos b, if_pos c]
theorem tx_m {T : List Int32} {m q : Nat} {l : List Int32} (a : ¬ bT T q = 34) (b : bT T q = 92) (c : ¬ mnI (bT T (q + 1)) = -1) : txS T (m + 1) q l = txS T m (q + 2) (l ++ [mnI (bT T (q + 1))]) := by rw [txS, if_neg a, if_pos b, if_neg c]
theorem tx_l {T : List Int32} {m q : Nat} {l : List Int32} (a : ¬ bT T q = 34) (b : ¬ bT T q = 92) (c : bT T q < 32) : txS T (m + 1) q l = none := by rw [txS, if_neg a, if_neg b, if_pos c]
theorem tx_g {T : List Int32} {m q : Nat} {l : List Int32} (a : ¬ bT T q = 34) (b : ¬ bT T q = 92) (c : 126 < bT T q) : txS T (m + 1) q l = none := by
  rw [txS, if_neg a, if_neg b]
  by_cases d : bT T q < 32
  · rw [if_pos d]
  · rw [if_neg d, if_pos c]
theorem tx_o {T : List Int32} {m q : Nat} {l : List Int32} (a : ¬ bT T q = 34) (b : ¬ bT T q = 92) (c : ¬ bT T q < 32) (d : ¬ 126 < bT T q) : txS T (m + 1) q l = txS T m (q + 1) (l ++ [bT T q]) := by rw [txS, if_neg a, if_neg b, if_neg c, if_neg d]
theorem tx_out {T : List Int32} {m q : Nat} {l : List Int32} (h : T.length ≤ q) : txS T m q l = none := by
  cases m with
  | zero => rfl
  | succ m =>
    have e : bT T q = -1 := by unfold bT; rw [List.getElem?_eq_none h]; rfl
    exact tx_l (by rw [e]; decide) (by rw [e]; decide) (by rw [e]; decide)
theorem le_not {a b : Int32} (h : ¬ a ≤ b) : b < a := Int32.not_le.mp h
theorem le_nlt {a b : Int32} (h : a ≤ b) : ¬ b < a := Int32.not_lt.mpr h
set_option maxRecDepth 20000 in
set_option maxHeartbeats 4000000 in
theorem L_tx {X : Nat × (Nat → Int32)} {h0 : PH} {Q : Option Value → PH → Prop} {T : List Int32} (hT : T.length ≤ 4000) : ∀ (m i : Nat) (l : List Int32) (h : PH) (κ : KS) (x : Option Value), T.length < i + m → i ≤ 4002 → κ.1 2 = 6 → κ.1 4 = nI l.length → Fk h0 h → RK h T κ → (∀ r, txS T m i l = some r → ∀ h' κ', Fk h0 h' → RK h' T κ' → κ'.1 1 = nI r.1 → κ'.1 2 = 5 → κ'.1 3 = κ.1 3 → κ'.1 4 = nI r.2.length → Q none h') → (txS T m i l = none → ∀ h' κ', Fk h0 h' → RK h' T κ' → κ'.1 1 = κ.1 1 → κ'.1 2 = 6 → κ'.1 3 = κ.1 3 → Q none h') → WP X mX8_readText 1 21 18 [some (.ref 12), some (.int (nI i)), x] [] h Q := by
  intro m
  induction m with
  | zero =>
    intro i l h κ x hn hi n2 n4 f q k5 k6
    refine w_iload_n dX8_readText_18 rfl rfl ?_
    refine w_aload_n dX8_readText_19 rfl rfl ?_
    refine w_gs (b := 1) q.1 dX8_readText_20 fX8_9 (by decide) rfl rfl (by decide) ?_
    refine kx_len q dX8_readText_23 fX8_19 ?_
    refine w_icmp_ge (tgt := 117) dX8_readText_26 (by decide) (fun c_26 => ?_) (fun c_26 => absurd c_26 (not_not_intro (nI_le (by omega) (by omega))))
    refine w_vret dX8_readText_117 ?_
    exact k6 rfl _ _ f q rfl n2 rfl
  | succ m ih =>
    intro i l h κ x hn hi n2 n4 f q k5 k6
    refine w_iload_n dX8_readText_18 rfl rfl ?_
    refine w_aload_n dX8_readText_19 rfl rfl ?_
    refine w_gs (b := 1) q.1 dX8_readText_20 fX8_9 (by decide) rfl rfl (by decide) ?_
    refine kx_len q dX8_readText_23 fX8_19 ?_
    refine w_icmp_ge (tgt := 117) dX8_readText_26 (by decide) (fun c_26 => ?_) (fun c_26 => ?_)
    · rw [nI_leI (by omega) (by omega)] at c_26
      refine w_vret dX8_readText_117 ?_
      exact k6 (tx_out c_26) _ _ f q rfl n2 rfl
    · rw [nI_leI (by omega) (by omega)] at c_26
      refine w_aload_n dX8_readText_29 rfl rfl ?_
      refine w_gs (b := 1) q.1 dX8_readText_30 fX8_9 (by decide) rfl rfl (by decide) ?_
      refine w_iload_n dX8_readText_33 rfl rfl ?_
      refine w_v1 (d2 := 0) (L2 := 0) dX8_readText_34 vX8_30 rfl (q.1.lt (by decide)) rfl (by decide) (Nat.le_of_ble_eq_true rfl) (by decide) (by decide) ?_
      refine T_byte1 q.1 q.2.1 ?_
      rw [bA_T (by omega)]
      refine k_i rfl ?_
      refine w_istore_n dX8_readText_37 rfl (by decide) ?_
      refine w_iload_n dX8_readText_38 rfl rfl ?_
      refine w_bipush dX8_readText_39 (v := 34) (by decide) ?_
      refine w_icmp_ne (tgt := 57) dX8_readText_41 (by decide) (fun c_41 => ?_) (fun c_41 => ?_)
      · refine w_iload_n dX8_readText_57 rfl rfl ?_
        refine w_bipush dX8_readText_58 (v := 92) (by decide) ?_
        refine w_icmp_ne (tgt := 88) dX8_readText_60 (by decide) (fun c_60 => ?_) (fun c_60 => ?_)
        · refine w_iload_n dX8_readText_88 rfl rfl ?_
          refine w_bipush dX8_readText_89 (v := 32) (by decide) ?_
          refine w_icmp_lt (tgt := 100) dX8_readText_91 (by decide) (fun c_91 => ?_) (fun c_91 => ?_)
          · refine w_vret dX8_readText_100 ?_
            refine k6 (tx_l c_41 c_60 c_91) _ _ f q rfl n2 rfl
          · refine w_iload_n dX8_readText_94 rfl rfl ?_
            refine w_bipush dX8_readText_95 (v := 126) (by decide) ?_
            refine w_icmp_le (tgt := 101) dX8_readText_97 (by decide) (fun c_97 => ?_) (fun c_97 => ?_)
            · refine w_aload_n dX8_readText_101 rfl rfl ?_
              refine w_dup dX8_readText_102 rfl ?_
              refine kx_get4 q dX8_readText_103 fX8_46 ?_
              refine w_iconst dX8_readText_106 (v := 1) (by decide) ?_
              refine w_iadd dX8_readText_107 ?_
              refine kx_put4 f q dX8_readText_108 fX8_46 (fun h1 f1 q1 => ?_)
              refine w_iinc (v := (nI (i + 1))) dX8_readText_111 rfl (nI_1 _) (by decide) ?_
              refine w_goto (tgt := 18) dX8_readText_114 (by decide) ?_
              have TX := tx_o (m := m) (l := l) c_41 c_60 c_91 (le_nlt c_97)
              refine ih (i + 1) _ _ _ _ (by omega) (by omega) (by rw [kG_o (by decide)]; exact n2) (by rw [kG_s, n4, nI_1, List.length_append]; rfl) f1 q1 (fun r e h9 κ9 => k5 r (TX.trans e) h9 κ9) (fun e h9 κ9 => k6 (TX.trans e) h9 κ9)
            · refine w_vret dX8_readText_100 ?_
              refine k6 (tx_g c_41 c_60 (le_not c_97)) _ _ f q rfl n2 rfl
        · refine w_iinc (v := (nI (i + 1))) dX8_readText_63 rfl (nI_1 i) (by decide) ?_
          refine w_aload_n dX8_readText_66 rfl rfl ?_
          refine w_gs (b := 1) q.1 dX8_readText_67 fX8_9 (by decide) rfl rfl (by decide) ?_
          refine w_iload_n dX8_readText_70 rfl rfl ?_
          refine w_v1 (d2 := 0) (L2 := 0) dX8_readText_71 vX8_30 rfl (q.1.lt (by decide)) rfl (by decide) (Nat.le_of_ble_eq_true rfl) (by decide) (by decide) ?_
          refine T_byte1 q.1 q.2.1 ?_
          rw [bA_T (by omega)]
          refine k_i rfl ?_
          refine w_s1 (d2 := 0) (L2 := 0) dX8_readText_74 vX8_49 rfl (by decide) (Nat.le_of_ble_eq_true rfl) (by decide) (by decide) ?_
          refine T_mnI ?_
          refine k_i rfl ?_
          refine w_iconst dX8_readText_77 (v := (-1)) (by decide) ?_
          refine w_icmp_ne (tgt := 85) dX8_readText_78 (by decide) (fun c_78 => ?_) (fun c_78 => ?_)
          · refine w_bipush dX8_readText_85 (v := 32) (by decide) ?_
            refine w_istore_n dX8_readText_87 rfl (by decide) ?_
            refine w_iload_n dX8_readText_88 rfl rfl ?_
            refine w_bipush dX8_readText_89 (v := 32) (by decide) ?_
            refine w_icmp_lt (tgt := 100) dX8_readText_91 (by decide) (fun c_91 => absurd c_91 (by decide)) (fun c_91 => ?_)
            refine w_iload_n dX8_readText_94 rfl rfl ?_
            refine w_bipush dX8_readText_95 (v := 126) (by decide) ?_
            refine w_icmp_le (tgt := 101) dX8_readText_97 (by decide) (fun c_97 => ?_) (fun c_97 => absurd c_97 (by decide))
            refine w_aload_n dX8_readText_101 rfl rfl ?_
            refine w_dup dX8_readText_102 rfl ?_
            refine kx_get4 q dX8_readText_103 fX8_46 ?_
            refine w_iconst dX8_readText_106 (v := 1) (by decide) ?_
            refine w_iadd dX8_readText_107 ?_
            refine kx_put4 f q dX8_readText_108 fX8_46 (fun h2 f2 q2 => ?_)
            refine w_iinc (v := (nI (i + 2))) dX8_readText_111 rfl (nI_1 _) (by decide) ?_
            refine w_goto (tgt := 18) dX8_readText_114 (by decide) ?_
            have TX := tx_m (m := m) (l := l) c_41 c_60 c_78
            refine ih (i + 2) _ _ _ _ (by omega) (by omega) (by rw [kG_o (by decide)]; exact n2) (by rw [kG_s, n4, nI_1, List.length_append]; rfl) f2 q2 (fun r e h9 κ9 => k5 r (TX.trans e) h9 κ9) (fun e h9 κ9 => k6 (TX.trans e) h9 κ9)
          · refine w_iconst dX8_readText_81 (v := (-1)) (by decide) ?_
            refine w_goto (tgt := 87) dX8_readText_82 (by decide) ?_
            refine w_istore_n dX8_readText_87 rfl (by decide) ?_
            refine w_iload_n dX8_readText_88 rfl rfl ?_
            refine w_bipush dX8_readText_89 (v := 32) (by decide) ?_
            refine w_icmp_lt (tgt := 100) dX8_readText_91 (by decide) (fun c_91 => ?_) (fun c_91 => absurd c_91 (by decide))
            refine w_vret dX8_readText_100 ?_
            refine k6 (tx_e c_41 c_60 c_78) _ _ f q rfl n2 rfl
      · refine w_aload_n dX8_readText_44 rfl rfl ?_
        refine w_iconst dX8_readText_45 (v := 5) (by decide) ?_
        refine kx_put2 f q dX8_readText_46 fX8_34 (fun h3 f3 q3 => ?_)
        refine w_aload_n dX8_readText_49 rfl rfl ?_
        refine w_iload_n dX8_readText_50 rfl rfl ?_
        refine w_iconst dX8_readText_51 (v := 1) (by decide) ?_
        refine w_iadd dX8_readText_52 ?_
        refine kx_put1 f3 q3 dX8_readText_53 fX8_15 (fun h4 f4 q4 => ?_)
        refine w_vret dX8_readText_56 ?_
        refine k5 _ (tx_q c_41) _ _ f4 q4 ?_ ?_ ?_ ?_
        · rw [kG_s, nI_1]
        · rw [kG_o (by decide), kG_s]
        · rw [kG_o (by decide), kG_o (by decide)]
        · rw [kG_o (by decide), kG_o (by decide)]; exact n4

set_option maxRecDepth 20000 in
set_option maxHeartbeats 4000000 in
/-- readText() -/
theorem T_tx {X : Nat × (Nat → Int32)} {h0 h : PH} {Q : Option Value → PH → Prop} {T : List Int32} {κ : KS} {s : Nat} (n3 : κ.1 3 = nI s) (hs : s < T.length) (f : Fk h0 h) (q : RK h T κ) (k5 : ∀ r, txS T (T.length - s) (s + 1) [] = some r → ∀ h' κ', Fk h0 h' → RK h' T κ' → κ'.1 1 = nI r.1 → κ'.1 2 = 5 → κ'.1 3 = nI s → κ'.1 4 = nI r.2.length → Q none h') (k6 : txS T (T.length - s) (s + 1) [] = none → ∀ h' κ', Fk h0 h' → RK h' T κ' → κ'.1 1 = κ.1 1 → κ'.1 2 = 6 → κ'.1 3 = nI s → Q none h') : WP X mX8_readText 1 21 0 (en 3 [.ref 12]) [] h Q := by
  refine w_aload_n dX8_readText_0 rfl rfl ?_
  refine w_bipush dX8_readText_1 (v := 6) (by decide) ?_
  refine kx_put2 f q dX8_readText_3 fX8_34 (fun h1 f1 q1 => ?_)
  refine w_aload_n dX8_readText_6 rfl rfl ?_
  refine w_iconst dX8_readText_7 (v := 0) (by decide) ?_
  refine kx_put4 f1 q1 dX8_readText_8 fX8_46 (fun h2 f2 q2 => ?_)
  refine w_aload_n dX8_readText_11 rfl rfl ?_
  refine kx_get3 q2 dX8_readText_12 fX8_27 ?_
  refine w_iconst dX8_readText_15 (v := 1) (by decide) ?_
  refine w_iadd dX8_readText_16 ?_
  refine w_istore_n dX8_readText_17 rfl (by decide) ?_
  have hl := q.2.1.2.1
  have e3 : (kG (kG κ 2 6) 4 0).1 3 = nI s := by rw [kG_o (by decide), kG_o (by decide)]; exact n3
  rw [e3, nI_1]
  exact L_tx hl (T.length - s) (s + 1) [] _ _ _ (by omega) (by omega) (by rw [kG_o (by decide), kG_s]) kG_s f2 q2 (fun r e h9 κ9 f9 q9 a b c d => k5 r e h9 κ9 f9 q9 a b (c.trans e3) d) (fun e h9 κ9 f9 q9 a b c => k6 e h9 κ9 f9 q9 (a.trans (by rw [kG_o (by decide), kG_o (by decide)])) b (c.trans e3))

set_option maxRecDepth 20000 in
set_option maxHeartbeats 4000000 in
theorem L_rw {X : Nat × (Nat → Int32)} {h0 : PH} {Q : Option Value → PH → Prop} {T : List Int32} {s : Nat} (hT : T.length ≤ 4000) (k : ∀ h' κ' x, Fk h0 h' → RK h' T κ' → κ'.1 1 = nI (wd1 T s) → κ'.1 3 = nI s → κ'.2.1 = (uH T s).1 → κ'.2.2.1 = (uH T s).2.1 → WP X mX8_readWord 2 47 143 [some (.ref 12), some (.int (uH T s).2.2), some (.int (nI (wd1 T s))), x] [] h' Q) : ∀ (n m : Nat) (h : PH) (κ : KS) (lb : Int32) (x : Option Value), s + m + n = T.length → κ.1 1 = nI (s + m) → κ.1 3 = nI s → κ.2.1 = (rwL T s m).1 → κ.2.2.1 = (rwL T s m).2.1 → lb = (rwL T s m).2.2 → wE T n (s + m) = wd1 T s → Fk h0 h → RK h T κ → WP X mX8_readWord 2 47 40 [some (.ref 12), some (.int lb), some (.int (nI (s + m))), x] [] h Q := by
  intro n
  induction n with
  | zero =>
    intro m h κ lb x hn n1 n3 n6 n7 n8 hw f q
    have e : wd1 T s = s + m := hw.symm
    have e2 : uH T s = rwL T s m := by unfold uH; rw [e, show s + m - s = m by omega]
    rw [e, e2, ← n6, ← n7, ← n8] at k
    refine w_iload_n dX8_readWord_40 rfl rfl ?_
    refine w_aload_n dX8_readWord_41 rfl rfl ?_
    refine w_gs (b := 1) q.1 dX8_readWord_42 fX8_9 (by decide) rfl rfl (by decide) ?_
    refine kx_len q dX8_readWord_45 fX8_19 ?_
    refine w_icmp_ge (tgt := 143) dX8_readWord_48 (by decide) (fun c_48 => ?_) (fun c_48 => absurd c_48 (not_not_intro (nI_le (by omega) (by omega))))
    exact k _ _ _ f q n1 n3 rfl rfl
  | succ n ih =>
    intro m h κ lb x hn n1 n3 n6 n7 n8 hw f q
    refine w_iload_n dX8_readWord_40 rfl rfl ?_
    refine w_aload_n dX8_readWord_41 rfl rfl ?_
    refine w_gs (b := 1) q.1 dX8_readWord_42 fX8_9 (by decide) rfl rfl (by decide) ?_
    refine kx_len q dX8_readWord_45 fX8_19 ?_
    refine w_icmp_ge (tgt := 143) dX8_readWord_48 (by decide) (fun c_48 => absurd c_48 (nI_ge (by omega) (by omega))) (fun c_48 => ?_)
    refine w_aload_n dX8_readWord_51 rfl rfl ?_
    refine w_gs (b := 1) q.1 dX8_readWord_52 fX8_9 (by decide) rfl rfl (by decide) ?_
    refine w_iload_n dX8_readWord_55 rfl rfl ?_
    refine w_v1 (d2 := 0) (L2 := 0) dX8_readWord_56 vX8_30 rfl (q.1.lt (by decide)) rfl (by decide) (Nat.le_of_ble_eq_true rfl) (by decide) (by decide) ?_
    refine T_byte1 q.1 q.2.1 ?_
    rw [bA_T (by omega)]
    refine k_i rfl ?_
    refine w_s1 (d2 := 0) (L2 := 0) dX8_readWord_59 vX8_40 rfl (by decide) (Nat.le_of_ble_eq_true rfl) (by decide) (by decide) ?_
    refine T_sgI ?_
    refine k_i rfl ?_
    refine w_istore_n dX8_readWord_62 rfl (by decide) ?_
    refine w_iload_n dX8_readWord_63 rfl rfl ?_
    refine w_if_ne (tgt := 70) dX8_readWord_64 (by decide) (fun c_64 => ?_) (fun c_64 => ?_)
    · refine w_iload_n dX8_readWord_70 rfl rfl ?_
      refine w_aload_n dX8_readWord_71 rfl rfl ?_
      refine kx_get3 q dX8_readWord_72 fX8_27 ?_
      refine w_isub dX8_readWord_75 ?_
      refine w_bipush dX8_readWord_76 (v := 10) (by decide) ?_
      refine w_icmp_ge (tgt := 99) dX8_readWord_78 (by decide) (fun c_78 => ?_) (fun c_78 => ?_)
      · rw [n3, nI_sub (by omega), show (10 : Int32) = nI 10 from rfl, nI_leI (by decide) (by omega)] at c_78
        refine w_aload_n dX8_readWord_99 rfl rfl ?_
        refine w_aload_n dX8_readWord_100 rfl rfl ?_
        refine kx_gB q dX8_readWord_101 fX8_56 ?_
        refine w_ldc2 dX8_readWord_104 kX8_59 ?_
        refine w_lmul dX8_readWord_107 ?_
        refine w_iload_n dX8_readWord_108 rfl rfl ?_
        refine w_i2l dX8_readWord_109 ?_
        refine w_ladd dX8_readWord_110 ?_
        refine kx_pB f q dX8_readWord_111 fX8_56 (fun h1 f1 q1 => ?_)
        refine w_iload_n dX8_readWord_114 rfl rfl ?_
        refine w_if_eq (tgt := 128) dX8_readWord_115 (by decide) (fun c_115 => ?_) (fun c_115 => ?_)
        · refine w_iconst dX8_readWord_128 (v := 0) (by decide) ?_
          refine w_istore_n dX8_readWord_129 rfl (by decide) ?_
          refine w_aload_n dX8_readWord_130 rfl rfl ?_
          refine w_iload_n dX8_readWord_131 rfl rfl ?_
          refine w_iconst dX8_readWord_132 (v := 1) (by decide) ?_
          refine w_iadd dX8_readWord_133 ?_
          refine kx_put1 f1 q1 dX8_readWord_134 fX8_15 (fun h2 f2 q2 => ?_)
          refine w_iinc (v := (nI (s + (m + 1)))) dX8_readWord_137 rfl (nI_1 _) (by decide) ?_
          refine w_goto (tgt := 40) dX8_readWord_140 (by decide) ?_
          exact ih (m + 1) _ _ _ _ (by omega) (by rw [kG_s, nI_1]; rfl) (by rw [kG_o (by decide)]; exact n3) (by rw [rwL, rw1]; dsimp only; rw [if_neg (by omega)]; exact n6) (by rw [rwL, rw1]; dsimp only; rw [if_neg (by omega), ← n7]; rfl) (by rw [rwL, rw1]; dsimp only; rw [← n8, if_pos c_115]) (by rw [wE, if_neg c_64] at hw; exact hw) f2 q2
        · refine w_iload_n dX8_readWord_118 rfl rfl ?_
          refine w_bipush dX8_readWord_119 (v := 37) (by decide) ?_
          refine w_icmp_gt (tgt := 128) dX8_readWord_121 (by decide) (fun c_121 => ?_) (fun c_121 => ?_)
          · refine w_iconst dX8_readWord_128 (v := 0) (by decide) ?_
            refine w_istore_n dX8_readWord_129 rfl (by decide) ?_
            refine w_aload_n dX8_readWord_130 rfl rfl ?_
            refine w_iload_n dX8_readWord_131 rfl rfl ?_
            refine w_iconst dX8_readWord_132 (v := 1) (by decide) ?_
            refine w_iadd dX8_readWord_133 ?_
            refine kx_put1 f1 q1 dX8_readWord_134 fX8_15 (fun h3 f3 q3 => ?_)
            refine w_iinc (v := (nI (s + (m + 1)))) dX8_readWord_137 rfl (nI_1 _) (by decide) ?_
            refine w_goto (tgt := 40) dX8_readWord_140 (by decide) ?_
            exact ih (m + 1) _ _ _ _ (by omega) (by rw [kG_s, nI_1]; rfl) (by rw [kG_o (by decide)]; exact n3) (by rw [rwL, rw1]; dsimp only; rw [if_neg (by omega)]; exact n6) (by rw [rwL, rw1]; dsimp only; rw [if_neg (by omega), ← n7]; rfl) (by rw [rwL, rw1]; dsimp only; rw [← n8, if_neg c_115, if_pos c_121]) (by rw [wE, if_neg c_64] at hw; exact hw) f3 q3
          · refine w_iconst dX8_readWord_124 (v := 1) (by decide) ?_
            refine w_goto (tgt := 129) dX8_readWord_125 (by decide) ?_
            refine w_istore_n dX8_readWord_129 rfl (by decide) ?_
            refine w_aload_n dX8_readWord_130 rfl rfl ?_
            refine w_iload_n dX8_readWord_131 rfl rfl ?_
            refine w_iconst dX8_readWord_132 (v := 1) (by decide) ?_
            refine w_iadd dX8_readWord_133 ?_
            refine kx_put1 f1 q1 dX8_readWord_134 fX8_15 (fun h4 f4 q4 => ?_)
            refine w_iinc (v := (nI (s + (m + 1)))) dX8_readWord_137 rfl (nI_1 _) (by decide) ?_
            refine w_goto (tgt := 40) dX8_readWord_140 (by decide) ?_
            exact ih (m + 1) _ _ _ _ (by omega) (by rw [kG_s, nI_1]; rfl) (by rw [kG_o (by decide)]; exact n3) (by rw [rwL, rw1]; dsimp only; rw [if_neg (by omega)]; exact n6) (by rw [rwL, rw1]; dsimp only; rw [if_neg (by omega), ← n7]; rfl) (by rw [rwL, rw1]; dsimp only; rw [← n8, if_neg c_115, if_neg c_121]) (by rw [wE, if_neg c_64] at hw; exact hw) f4 q4
      · rw [n3, nI_sub (by omega), show (10 : Int32) = nI 10 from rfl, nI_leI (by decide) (by omega)] at c_78
        refine w_aload_n dX8_readWord_81 rfl rfl ?_
        refine w_aload_n dX8_readWord_82 rfl rfl ?_
        refine kx_gA q dX8_readWord_83 fX8_52 ?_
        refine w_ldc2 dX8_readWord_86 kX8_59 ?_
        refine w_lmul dX8_readWord_89 ?_
        refine w_iload_n dX8_readWord_90 rfl rfl ?_
        refine w_i2l dX8_readWord_91 ?_
        refine w_ladd dX8_readWord_92 ?_
        refine kx_pA f q dX8_readWord_93 fX8_52 (fun h5 f5 q5 => ?_)
        refine w_goto (tgt := 114) dX8_readWord_96 (by decide) ?_
        refine w_iload_n dX8_readWord_114 rfl rfl ?_
        refine w_if_eq (tgt := 128) dX8_readWord_115 (by decide) (fun c_115 => ?_) (fun c_115 => ?_)
        · refine w_iconst dX8_readWord_128 (v := 0) (by decide) ?_
          refine w_istore_n dX8_readWord_129 rfl (by decide) ?_
          refine w_aload_n dX8_readWord_130 rfl rfl ?_
          refine w_iload_n dX8_readWord_131 rfl rfl ?_
          refine w_iconst dX8_readWord_132 (v := 1) (by decide) ?_
          refine w_iadd dX8_readWord_133 ?_
          refine kx_put1 f5 q5 dX8_readWord_134 fX8_15 (fun h6 f6 q6 => ?_)
          refine w_iinc (v := (nI (s + (m + 1)))) dX8_readWord_137 rfl (nI_1 _) (by decide) ?_
          refine w_goto (tgt := 40) dX8_readWord_140 (by decide) ?_
          exact ih (m + 1) _ _ _ _ (by omega) (by rw [kG_s, nI_1]; rfl) (by rw [kG_o (by decide)]; exact n3) (by rw [rwL, rw1]; dsimp only; rw [if_pos (by omega), ← n6]; rfl) (by rw [rwL, rw1]; dsimp only; rw [if_pos (by omega)]; exact n7) (by rw [rwL, rw1]; dsimp only; rw [← n8, if_pos c_115]) (by rw [wE, if_neg c_64] at hw; exact hw) f6 q6
        · refine w_iload_n dX8_readWord_118 rfl rfl ?_
          refine w_bipush dX8_readWord_119 (v := 37) (by decide) ?_
          refine w_icmp_gt (tgt := 128) dX8_readWord_121 (by decide) (fun c_121 => ?_) (fun c_121 => ?_)
          · refine w_iconst dX8_readWord_128 (v := 0) (by decide) ?_
            refine w_istore_n dX8_readWord_129 rfl (by decide) ?_
            refine w_aload_n dX8_readWord_130 rfl rfl ?_
            refine w_iload_n dX8_readWord_131 rfl rfl ?_
            refine w_iconst dX8_readWord_132 (v := 1) (by decide) ?_
            refine w_iadd dX8_readWord_133 ?_
            refine kx_put1 f5 q5 dX8_readWord_134 fX8_15 (fun h7 f7 q7 => ?_)
            refine w_iinc (v := (nI (s + (m + 1)))) dX8_readWord_137 rfl (nI_1 _) (by decide) ?_
            refine w_goto (tgt := 40) dX8_readWord_140 (by decide) ?_
            exact ih (m + 1) _ _ _ _ (by omega) (by rw [kG_s, nI_1]; rfl) (by rw [kG_o (by decide)]; exact n3) (by rw [rwL, rw1]; dsimp only; rw [if_pos (by omega), ← n6]; rfl) (by rw [rwL, rw1]; dsimp only; rw [if_pos (by omega)]; exact n7) (by rw [rwL, rw1]; dsimp only; rw [← n8, if_neg c_115, if_pos c_121]) (by rw [wE, if_neg c_64] at hw; exact hw) f7 q7
          · refine w_iconst dX8_readWord_124 (v := 1) (by decide) ?_
            refine w_goto (tgt := 129) dX8_readWord_125 (by decide) ?_
            refine w_istore_n dX8_readWord_129 rfl (by decide) ?_
            refine w_aload_n dX8_readWord_130 rfl rfl ?_
            refine w_iload_n dX8_readWord_131 rfl rfl ?_
            refine w_iconst dX8_readWord_132 (v := 1) (by decide) ?_
            refine w_iadd dX8_readWord_133 ?_
            refine kx_put1 f5 q5 dX8_readWord_134 fX8_15 (fun h8 f8 q8 => ?_)
            refine w_iinc (v := (nI (s + (m + 1)))) dX8_readWord_137 rfl (nI_1 _) (by decide) ?_
            refine w_goto (tgt := 40) dX8_readWord_140 (by decide) ?_
            exact ih (m + 1) _ _ _ _ (by omega) (by rw [kG_s, nI_1]; rfl) (by rw [kG_o (by decide)]; exact n3) (by rw [rwL, rw1]; dsimp only; rw [if_pos (by omega), ← n6]; rfl) (by rw [rwL, rw1]; dsimp only; rw [if_pos (by omega)]; exact n7) (by rw [rwL, rw1]; dsimp only; rw [← n8, if_neg c_115, if_neg c_121]) (by rw [wE, if_neg c_64] at hw; exact hw) f8 q8
    · refine w_goto (tgt := 143) dX8_readWord_67 (by decide) ?_
      have e : wd1 T s = s + m := by rw [wE, if_pos c_64] at hw; exact hw.symm
      have e2 : uH T s = rwL T s m := by unfold uH; rw [e, show s + m - s = m by omega]
      rw [e, e2, ← n6, ← n7, ← n8] at k
      exact k _ _ _ f q n1 n3 rfl rfl

/-- the token that begins at s, as the class keeps it -/
def TK (T : List Int32) (s : Nat) (κ : KS) : Prop := κ.1 1 = nI (uE T s) ∧ κ.1 2 = nI (uC T s) ∧ κ.1 3 = nI s ∧ ((uC T s = 2 ∨ uC T s = 3 ∨ uC T s = 5) → κ.1 4 = uV T s) ∧ (uC T s = 1 → κ.2.2.2 = (uO T s).map (fun i => 1000000 + i)) ∧ (uC T s = 4 → κ.2.1 = (uH T s).1 ∧ κ.2.2.1 = (uH T s).2.1)
theorem uC_w {T : List Int32} {s : Nat} (n1 : ¬ bT T s = -1) (n2 : ¬ bT T s = 10) (n3 : ¬ bT T s = 34) (n4 : ¬ sgI (bT T s) = 0) : uC T s = wk T s ∧ uE T s = wd1 T s := by
  unfold uC uE
  exact ⟨by rw [if_neg n1, if_neg n2, if_neg n3, if_neg n4], by rw [if_neg n1, if_neg n2, if_neg n3, if_neg n4]⟩
theorem TK_of {T : List Int32} {s c : Nat} {κ : KS} (eC : uC T s = c) (n1 : κ.1 1 = nI (uE T s)) (n2 : κ.1 2 = nI c) (n3 : κ.1 3 = nI s) (g : (c = 2 ∨ c = 3 ∨ c = 5) → κ.1 4 = uV T s) (g1 : c = 1 → κ.2.2.2 = (uO T s).map (fun i => 1000000 + i)) (g4 : c = 4 → κ.2.1 = (uH T s).1 ∧ κ.2.2.1 = (uH T s).2.1) : TK T s κ := by
  subst eC; exact ⟨n1, n2, n3, g, g1, g4⟩
theorem uO_0 {T : List Int32} {s : Nat} {x : Int64} (e : 10 < wd1 T s - s ∨ fO 37 0 x = none) (n6 : x = (uH T s).1) : uO T s = none := by
  subst n6
  unfold uO
  by_cases c : 10 < wd1 T s - s
  · rw [if_pos c]
  · rw [if_neg c]; exact e.resolve_left c
theorem wk_1 {T : List Int32} {s j : Nat} (e : uO T s = some j) : wk T s = 1 := by unfold wk; rw [e]; rfl
theorem wk_2 {T : List Int32} {s : Nat} {v : Int32} (e : uO T s = none) (e2 : numS T s (wd1 T s) = some v) : wk T s = 2 := by unfold wk; rw [e, e2]; rfl
theorem wk_3 {T : List Int32} {s : Nat} {v : Int32} (e : uO T s = none) (e2 : numS T s (wd1 T s) = none) (e3 : uR T s = some v) : wk T s = 3 := by unfold wk; rw [e, e2, e3]; rfl
theorem wk_4 {T : List Int32} {s : Nat} (e : uO T s = none) (e2 : numS T s (wd1 T s) = none) (e3 : uR T s = none) (a : ¬ (uH T s).2.2 = 0) (b : ¬ 20 < wd1 T s - s) : wk T s = 4 := by
  unfold wk; rw [e, e2, e3]
  have : uL T s = true := by unfold uL; simp only [a, decide_false, Bool.not_false, Bool.true_and, decide_eq_true_eq]; omega
  rw [this]; rfl
theorem wk_6 {T : List Int32} {s : Nat} (e : uO T s = none) (e2 : numS T s (wd1 T s) = none) (e3 : uR T s = none) (a : (uH T s).2.2 = 0 ∨ 20 < wd1 T s - s) : wk T s = 6 := by
  unfold wk; rw [e, e2, e3]
  have : uL T s = false := by
    unfold uL
    rcases a with a | a
    · simp [a]
    · simp only [Bool.and_eq_false_iff, decide_eq_false_iff_not]; exact Or.inr (by omega)
  rw [this]; rfl
set_option maxRecDepth 20000 in
set_option maxHeartbeats 4000000 in
theorem L_rw9 {X : Nat × (Nat → Int32)} {h0 h : PH} {Q : Option Value → PH → Prop} {T : List Int32} {κ : KS} {s : Nat} {i9 : Int32} {x : Option Value} (hs : s ≤ T.length) (n1 : κ.1 1 = nI (wd1 T s)) (n3 : κ.1 3 = nI s) (n6 : κ.2.1 = (uH T s).1) (n7 : κ.2.2.1 = (uH T s).2.1) (eC : uC T s = wk T s) (eE : uE T s = wd1 T s) (f : Fk h0 h) (q : RK h T κ) (k : ∀ h' κ', Fk h0 h' → RK h' T κ' → TK T s κ' → Q none h') : WP X mX8_readWord 2 47 143 [some (.ref 12), some (.int (uH T s).2.2), some (.int i9), x] [] h Q := by
  have hl := q.2.1.2.1
  have hw := wd1_p hs
  refine w_aload_n dX8_readWord_143 rfl rfl ?_
  refine w_v0 (d2 := 0) (L2 := 0) dX8_readWord_144 vX8_61 rfl (q.1.lt (by decide)) (by decide) (Nat.le_of_ble_eq_true rfl) (by decide) (by decide) ?_
  refine T_fO n1 n3 hw.1 hw.2.1 f q (fun e1 ha fa qa => ?_) (fun e0 j e1 hb fb qb => ?_)
  · refine k_i rfl ?_
    refine w_if_eq (tgt := 158) dX8_readWord_147 (by decide) (fun c_147 => ?_) (fun c_147 => absurd c_147 (by decide))
    refine w_aload_n dX8_readWord_158 rfl rfl ?_
    refine w_v0 (d2 := 1) (L2 := 21) dX8_readWord_159 vX8_65 rfl (qa.1.lt (by decide)) (by decide) (Nat.le_of_ble_eq_true rfl) (by decide) (by decide) ?_
    have eO : uO T s = none := uO_0 e1 n6
    refine T_fN (κ := kP κ none) n1 n3 hw.1 hw.2.1 fa qa (fun e2 => ?_) (fun v e2 hc fc qc => ?_)
    · refine k_i rfl ?_
      refine w_if_eq (tgt := 173) dX8_readWord_162 (by decide) (fun c_162 => ?_) (fun c_162 => absurd c_162 (by decide))
      refine w_aload_n dX8_readWord_173 rfl rfl ?_
      refine w_v0 (d2 := 0) (L2 := 0) dX8_readWord_174 vX8_68 rfl (qa.1.lt (by decide)) (by decide) (Nat.le_of_ble_eq_true rfl) (by decide) (by decide) ?_
      refine T_fR (κ := kP κ none) n1 n3 n6 hw.1 hw.2.1 fa qa (fun e3 => ?_) (fun v e3 hd fd qd => ?_)
      · refine k_i rfl ?_
        refine w_if_eq (tgt := 188) dX8_readWord_177 (by decide) (fun c_177 => ?_) (fun c_177 => absurd c_177 (by decide))
        refine w_aload_n dX8_readWord_188 rfl rfl ?_
        refine w_iload_n dX8_readWord_189 rfl rfl ?_
        refine w_if_eq (tgt := 211) dX8_readWord_190 (by decide) (fun c_190 => ?_) (fun c_190 => ?_)
        · refine w_bipush dX8_readWord_211 (v := 6) (by decide) ?_
          refine kx_put2 fa qa dX8_readWord_213 fX8_34 (fun h1 f1 q1 => ?_)
          refine w_vret dX8_readWord_216 ?_
          exact k _ _ f1 q1 (TK_of (eC.trans (wk_6 eO e2 e3 (Or.inl c_190))) (by rw [kG_o (by decide), eE]; exact n1) (by rw [kG_s]; rfl) (by rw [kG_o (by decide)]; exact n3) (fun e => absurd e (by decide)) (fun e => absurd e (by decide)) (fun e => absurd e (by decide)))
        · refine w_aload_n dX8_readWord_193 rfl rfl ?_
          refine kx_get1 qa dX8_readWord_194 fX8_15 ?_
          refine w_aload_n dX8_readWord_197 rfl rfl ?_
          refine kx_get3 qa dX8_readWord_198 fX8_27 ?_
          refine w_isub dX8_readWord_201 ?_
          refine w_bipush dX8_readWord_202 (v := 20) (by decide) ?_
          refine w_icmp_gt (tgt := 211) dX8_readWord_204 (by decide) (fun c_204 => ?_) (fun c_204 => ?_)
          · rw [show (kP κ none).1 = κ.1 from rfl, n1, n3, nI_sub hw.1, show (20 : Int32) = nI 20 from rfl, nI_ltI (by decide) (by omega)] at c_204
            refine w_bipush dX8_readWord_211 (v := 6) (by decide) ?_
            refine kx_put2 fa qa dX8_readWord_213 fX8_34 (fun h2 f2 q2 => ?_)
            refine w_vret dX8_readWord_216 ?_
            exact k _ _ f2 q2 (TK_of (eC.trans (wk_6 eO e2 e3 (Or.inr c_204))) (by rw [kG_o (by decide), eE]; exact n1) (by rw [kG_s]; rfl) (by rw [kG_o (by decide)]; exact n3) (fun e => absurd e (by decide)) (fun e => absurd e (by decide)) (fun e => absurd e (by decide)))
          · rw [show (kP κ none).1 = κ.1 from rfl, n1, n3, nI_sub hw.1, show (20 : Int32) = nI 20 from rfl, nI_ltI (by decide) (by omega)] at c_204
            refine w_iconst dX8_readWord_207 (v := 4) (by decide) ?_
            refine w_goto (tgt := 213) dX8_readWord_208 (by decide) ?_
            refine kx_put2 fa qa dX8_readWord_213 fX8_34 (fun h3 f3 q3 => ?_)
            refine w_vret dX8_readWord_216 ?_
            exact k _ _ f3 q3 (TK_of (eC.trans (wk_4 eO e2 e3 c_190 c_204)) (by rw [kG_o (by decide), eE]; exact n1) (by rw [kG_s]; rfl) (by rw [kG_o (by decide)]; exact n3) (fun e => absurd e (by decide)) (fun e => absurd e (by decide)) (fun _ => ⟨n6, n7⟩))
      · refine k_i rfl ?_
        refine w_if_eq (tgt := 188) dX8_readWord_177 (by decide) (fun c_177 => absurd c_177 (by decide)) (fun c_177 => ?_)
        refine w_aload_n dX8_readWord_180 rfl rfl ?_
        refine w_iconst dX8_readWord_181 (v := 3) (by decide) ?_
        refine kx_put2 fd qd dX8_readWord_182 fX8_34 (fun h4 f4 q4 => ?_)
        refine w_goto (tgt := 216) dX8_readWord_185 (by decide) ?_
        refine w_vret dX8_readWord_216 ?_
        have eW := eC.trans (wk_3 eO e2 e3)
        exact k _ _ f4 q4 (TK_of eW (by rw [kG_o (by decide), kG_o (by decide), eE]; exact n1) (by rw [kG_s]; rfl) (by rw [kG_o (by decide), kG_o (by decide)]; exact n3) (fun _ => by rw [kG_o (by decide), kG_s]; unfold uV; rw [eW, e3]; rfl) (fun e => absurd e (by decide)) (fun e => absurd e (by decide)))
    · refine k_i rfl ?_
      refine w_if_eq (tgt := 173) dX8_readWord_162 (by decide) (fun c_162 => absurd c_162 (by decide)) (fun c_162 => ?_)
      refine w_aload_n dX8_readWord_165 rfl rfl ?_
      refine w_iconst dX8_readWord_166 (v := 2) (by decide) ?_
      refine kx_put2 fc qc dX8_readWord_167 fX8_34 (fun h5 f5 q5 => ?_)
      refine w_goto (tgt := 216) dX8_readWord_170 (by decide) ?_
      refine w_vret dX8_readWord_216 ?_
      have eW := eC.trans (wk_2 eO e2)
      exact k _ _ f5 q5 (TK_of eW (by rw [kG_o (by decide), kG_o (by decide), eE]; exact n1) (by rw [kG_s]; rfl) (by rw [kG_o (by decide), kG_o (by decide)]; exact n3) (fun _ => by rw [kG_o (by decide), kG_s]; unfold uV; rw [eW, e2]; rfl) (fun e => absurd e (by decide)) (fun e => absurd e (by decide)))
  · refine k_i rfl ?_
    refine w_if_eq (tgt := 158) dX8_readWord_147 (by decide) (fun c_147 => absurd c_147 (by decide)) (fun c_147 => ?_)
    refine w_aload_n dX8_readWord_150 rfl rfl ?_
    refine w_iconst dX8_readWord_151 (v := 1) (by decide) ?_
    refine kx_put2 fb qb dX8_readWord_152 fX8_34 (fun h6 f6 q6 => ?_)
    refine w_goto (tgt := 216) dX8_readWord_155 (by decide) ?_
    refine w_vret dX8_readWord_216 ?_
    have eO : uO T s = some j := by unfold uO; rw [if_neg e0, ← n6]; exact e1
    exact k _ _ f6 q6 (TK_of (eC.trans (wk_1 eO)) (by rw [kG_o (by decide), eE]; exact n1) (by rw [kG_s]; rfl) (by rw [kG_o (by decide)]; exact n3) (fun e => absurd e (by decide)) (fun _ => by rw [eO]; rfl) (fun e => absurd e (by decide)))

set_option maxRecDepth 20000 in
set_option maxHeartbeats 4000000 in
/-- readWord() -/
theorem T_rw {X : Nat × (Nat → Int32)} {h0 h : PH} {Q : Option Value → PH → Prop} {T : List Int32} {κ : KS} {s : Nat} (n1 : κ.1 1 = nI s) (n3 : κ.1 3 = nI s) (hs : s < T.length) (eC : uC T s = wk T s) (eE : uE T s = wd1 T s) (f : Fk h0 h) (q : RK h T κ) (k : ∀ h' κ', Fk h0 h' → RK h' T κ' → TK T s κ' → Q none h') : WP X mX8_readWord 2 47 0 (en 4 [.ref 12]) [] h Q := by
  refine w_aload_n dX8_readWord_0 rfl rfl ?_
  refine w_lconst dX8_readWord_1 (v := 0) (by decide) ?_
  refine kx_pA f q dX8_readWord_2 fX8_52 (fun h1 f1 q1 => ?_)
  refine w_aload_n dX8_readWord_5 rfl rfl ?_
  refine w_lconst dX8_readWord_6 (v := 0) (by decide) ?_
  refine kx_pB f1 q1 dX8_readWord_7 fX8_56 (fun h2 f2 q2 => ?_)
  refine w_aload_n dX8_readWord_10 rfl rfl ?_
  refine w_gs (b := 1) q2.1 dX8_readWord_11 fX8_9 (by decide) rfl rfl (by decide) ?_
  refine w_aload_n dX8_readWord_14 rfl rfl ?_
  refine kx_get3 q2 dX8_readWord_15 fX8_27 ?_
  refine w_v1 (d2 := 0) (L2 := 0) dX8_readWord_18 vX8_30 rfl (q2.1.lt (by decide)) rfl (by decide) (Nat.le_of_ble_eq_true rfl) (by decide) (by decide) ?_
  refine T_byte1 q2.1 q2.2.1 ?_
  rw [show (kB (kA κ 0) 0).1 = κ.1 from rfl, n3, bA_T (by have := q.2.1.2.1; omega)]
  refine k_i rfl ?_
  refine w_s1 (d2 := 0) (L2 := 0) dX8_readWord_21 vX8_40 rfl (by decide) (Nat.le_of_ble_eq_true rfl) (by decide) (by decide) ?_
  refine T_sgI ?_
  refine k_i rfl ?_
  refine w_bipush dX8_readWord_24 (v := 26) (by decide) ?_
  refine w_icmp_gt (tgt := 33) dX8_readWord_26 (by decide) (fun c_26 => ?_) (fun c_26 => ?_)
  · refine w_iconst dX8_readWord_33 (v := 0) (by decide) ?_
    refine w_istore_n dX8_readWord_34 rfl (by decide) ?_
    refine w_aload_n dX8_readWord_35 rfl rfl ?_
    refine kx_get3 q2 dX8_readWord_36 fX8_27 ?_
    refine w_istore_n dX8_readWord_39 rfl (by decide) ?_
    rw [show (kB (kA κ 0) 0).1 = κ.1 from rfl, n3]
    exact L_rw (s := s) q.2.1.2.1 (fun h9 κ9 x9 f9 q9 a b c d9 => L_rw9 (by omega) a b c d9 eC eE f9 q9 k) (T.length - s) 0 _ (kB (kA κ 0) 0) _ _ (by omega) n1 n3 rfl rfl (by rw [rwL, if_pos c_26]) rfl f2 q2
  · refine w_iconst dX8_readWord_29 (v := 1) (by decide) ?_
    refine w_goto (tgt := 34) dX8_readWord_30 (by decide) ?_
    refine w_istore_n dX8_readWord_34 rfl (by decide) ?_
    refine w_aload_n dX8_readWord_35 rfl rfl ?_
    refine kx_get3 q2 dX8_readWord_36 fX8_27 ?_
    refine w_istore_n dX8_readWord_39 rfl (by decide) ?_
    rw [show (kB (kA κ 0) 0).1 = κ.1 from rfl, n3]
    exact L_rw (s := s) q.2.1.2.1 (fun h9 κ9 x9 f9 q9 a b c d9 => L_rw9 (by omega) a b c d9 eC eE f9 q9 k) (T.length - s) 0 _ (kB (kA κ 0) 0) _ _ (by omega) n1 n3 rfl rfl (by rw [rwL, if_neg c_26]) rfl f2 q2

theorem skB_p (T : List Int32) : ∀ (m p : Nat), p + m = T.length → p ≤ skB T m p ∧ skB T m p ≤ T.length
  | 0, p, h => by unfold skB; omega
  | m + 1, p, h => by
    have := skB_p T m (p + 1) (by omega)
    unfold skB
    split
    · omega
    split
    · omega
    split
    · omega
    split <;> omega
theorem skC_p (T : List Int32) : ∀ (m p : Nat), p + m = T.length → p ≤ skC T m p ∧ skC T m p ≤ T.length
  | 0, p, h => by unfold skC; omega
  | m + 1, p, h => by
    have := skC_p T m (p + 1) (by omega)
    unfold skC
    split <;> omega
theorem nx_p {T : List Int32} {p : Nat} (h : p ≤ T.length) : p ≤ nx T p ∧ nx T p ≤ T.length := by
  have a := skB_p T (T.length - p) p (by omega)
  unfold nx sk1
  split
  · have b := skC_p T (T.length - skB T (T.length - p) p) (skB T (T.length - p) p) (by omega)
    omega
  · exact a
theorem uC_0 {T : List Int32} {s : Nat} (h : bT T s = -1 ∨ bT T s = 10) : uC T s = 0 := by
  unfold uC
  rcases h with h | h
  · rw [if_pos h]
  · rw [if_neg (by rw [h]; decide), if_pos h]
theorem uE_0 {T : List Int32} {s : Nat} (h : bT T s = -1 ∨ bT T s = 10) : uE T s = s := by
  unfold uE
  rcases h with h | h
  · rw [if_pos h]
  · rw [if_neg (by rw [h]; decide), if_pos h]
theorem uC_6 {T : List Int32} {s : Nat} (n1 : ¬ bT T s = -1) (n2 : ¬ bT T s = 10) (n3 : ¬ bT T s = 34) (n4 : sgI (bT T s) = 0) : uC T s = 6 ∧ uE T s = s := by
  unfold uC uE
  exact ⟨by rw [if_neg n1, if_neg n2, if_neg n3, if_pos n4], by rw [if_neg n1, if_neg n2, if_neg n3, if_pos n4]⟩
theorem uC_5 {T : List Int32} {s : Nat} {r : Nat × List Int32} (n1 : ¬ bT T s = -1) (n2 : ¬ bT T s = 10) (n3 : bT T s = 34) (e : txS T (T.length - s) (s + 1) [] = some r) : uC T s = 5 ∧ uE T s = r.1 ∧ uV T s = nI r.2.length := by
  have c : uC T s = 5 := by unfold uC; rw [if_neg n1, if_neg n2, if_pos n3, e]; rfl
  refine ⟨c, ?_, ?_⟩
  · unfold uE; rw [if_neg n1, if_neg n2, if_pos n3, e]
  · unfold uV; rw [if_pos c]; unfold uX; rw [e]
theorem uC_t {T : List Int32} {s : Nat} (n1 : ¬ bT T s = -1) (n2 : ¬ bT T s = 10) (n3 : bT T s = 34) (e : txS T (T.length - s) (s + 1) [] = none) : uC T s = 6 ∧ uE T s = s := by
  unfold uC uE
  exact ⟨by rw [if_neg n1, if_neg n2, if_pos n3, e]; rfl, by rw [if_neg n1, if_neg n2, if_pos n3, e]⟩
theorem bT_lt {T : List Int32} {s : Nat} (h : ¬ bT T s = -1) : s < T.length := by
  rcases Nat.lt_or_ge s T.length with a | a
  · exact a
  · exact absurd (bT_out a) h
set_option maxRecDepth 20000 in
set_option maxHeartbeats 4000000 in
/-- advance() -/
theorem T_adv {X : Nat × (Nat → Int32)} {h0 h : PH} {Q : Option Value → PH → Prop} {T : List Int32} {κ : KS} {p : Nat} (hp : κ.1 1 = nI p) (hp2 : p ≤ T.length) (f : Fk h0 h) (q : RK h T κ) (k : ∀ h' κ', Fk h0 h' → RK h' T κ' → TK T (nx T p) κ' → Q none h') : WP X mX8_advance 3 70 0 (en 2 [.ref 12]) [] h Q := by
  refine w_aload_n dX8_advance_0 rfl rfl ?_
  refine w_v0 (d2 := 1) (L2 := 21) dX8_advance_1 vX8_24 rfl (q.1.lt (by decide)) (by decide) (Nat.le_of_ble_eq_true rfl) (by decide) (by decide) ?_
  refine T_skip hp hp2 f q (fun ha fa qa => ?_)
  refine k_v rfl ?_
  refine w_aload_n dX8_advance_4 rfl rfl ?_
  refine w_aload_n dX8_advance_5 rfl rfl ?_
  refine kx_get1 qa dX8_advance_6 fX8_15 ?_
  refine kx_put3 fa qa dX8_advance_9 fX8_27 (fun h1 f1 q1 => ?_)
  have hb9 := nx_p hp2
  have hl := q.2.1.2.1
  have N1 : (kG (kG κ 1 (nI (nx T p))) 3 ((kG κ 1 (nI (nx T p))).1 1)).1 1 = nI (nx T p) := by rw [kG_o (by decide), kG_s]
  have N3 : (kG (kG κ 1 (nI (nx T p))) 3 ((kG κ 1 (nI (nx T p))).1 1)).1 3 = nI (nx T p) := by rw [kG_s, kG_s]
  refine w_aload_n dX8_advance_12 rfl rfl ?_
  refine w_gs (b := 1) q1.1 dX8_advance_13 fX8_9 (by decide) rfl rfl (by decide) ?_
  refine w_aload_n dX8_advance_16 rfl rfl ?_
  refine kx_get1 q1 dX8_advance_17 fX8_15 ?_
  refine w_v1 (d2 := 0) (L2 := 0) dX8_advance_20 vX8_30 rfl (q1.1.lt (by decide)) rfl (by decide) (Nat.le_of_ble_eq_true rfl) (by decide) (by decide) ?_
  refine T_byte1 q1.1 q1.2.1 ?_
  rw [N1, bA_T (by omega)]
  refine k_i rfl ?_
  refine w_istore_n dX8_advance_23 rfl (by decide) ?_
  refine w_iload_n dX8_advance_24 rfl rfl ?_
  refine w_iconst dX8_advance_25 (v := (-1)) (by decide) ?_
  refine w_icmp_eq (tgt := 35) dX8_advance_26 (by decide) (fun c_26 => ?_) (fun c_26 => ?_)
  · refine w_aload_n dX8_advance_35 rfl rfl ?_
    refine w_iconst dX8_advance_36 (v := 0) (by decide) ?_
    refine kx_put2 f1 q1 dX8_advance_37 fX8_34 (fun h2 f2 q2 => ?_)
    refine w_goto (tgt := 76) dX8_advance_40 (by decide) ?_
    refine w_vret dX8_advance_76 ?_
    exact k _ _ f2 q2 (TK_of (uC_0 (Or.inl c_26)) (by rw [kG_o (by decide), uE_0 (Or.inl c_26)]; exact N1) (by rw [kG_s]; rfl) (by rw [kG_o (by decide)]; exact N3) (fun e => absurd e (by decide)) (fun e => absurd e (by decide)) (fun e => absurd e (by decide)))
  · refine w_iload_n dX8_advance_29 rfl rfl ?_
    refine w_bipush dX8_advance_30 (v := 10) (by decide) ?_
    refine w_icmp_ne (tgt := 43) dX8_advance_32 (by decide) (fun c_32 => ?_) (fun c_32 => ?_)
    · refine w_iload_n dX8_advance_43 rfl rfl ?_
      refine w_bipush dX8_advance_44 (v := 34) (by decide) ?_
      refine w_icmp_ne (tgt := 56) dX8_advance_46 (by decide) (fun c_46 => ?_) (fun c_46 => ?_)
      · refine w_iload_n dX8_advance_56 rfl rfl ?_
        refine w_s1 (d2 := 0) (L2 := 0) dX8_advance_57 vX8_40 rfl (by decide) (Nat.le_of_ble_eq_true rfl) (by decide) (by decide) ?_
        refine T_sgI ?_
        refine k_i rfl ?_
        refine w_if_eq (tgt := 70) dX8_advance_60 (by decide) (fun c_60 => ?_) (fun c_60 => ?_)
        · refine w_aload_n dX8_advance_70 rfl rfl ?_
          refine w_bipush dX8_advance_71 (v := 6) (by decide) ?_
          refine kx_put2 f1 q1 dX8_advance_73 fX8_34 (fun h3 f3 q3 => ?_)
          refine w_vret dX8_advance_76 ?_
          exact k _ _ f3 q3 (TK_of (uC_6 c_26 c_32 c_46 c_60).1 (by rw [kG_o (by decide), (uC_6 c_26 c_32 c_46 c_60).2]; exact N1) (by rw [kG_s]; rfl) (by rw [kG_o (by decide)]; exact N3) (fun e => absurd e (by decide)) (fun e => absurd e (by decide)) (fun e => absurd e (by decide)))
        · refine w_aload_n dX8_advance_63 rfl rfl ?_
          refine w_v0 (d2 := 2) (L2 := 47) dX8_advance_64 vX8_43 rfl (q1.1.lt (by decide)) (by decide) (Nat.le_of_ble_eq_true rfl) (by decide) (by decide) ?_
          refine T_rw N1 N3 (bT_lt c_26) (uC_w c_26 c_32 c_46 c_60).1 (uC_w c_26 c_32 c_46 c_60).2 f1 q1 (fun hb κb fb qb tb => ?_)
          refine k_v rfl ?_
          refine w_goto (tgt := 76) dX8_advance_67 (by decide) ?_
          refine w_vret dX8_advance_76 ?_
          exact k _ _ fb qb tb
      · refine w_aload_n dX8_advance_49 rfl rfl ?_
        refine w_v0 (d2 := 1) (L2 := 21) dX8_advance_50 vX8_37 rfl (q1.1.lt (by decide)) (by decide) (Nat.le_of_ble_eq_true rfl) (by decide) (by decide) ?_
        refine T_tx N3 (bT_lt c_26) f1 q1 (fun r e hb κb fb qb x1 x2 x3 x4 => ?_) (fun e hb κb fb qb x1 x2 x3 => ?_)
        · refine k_v rfl ?_
          refine w_goto (tgt := 76) dX8_advance_53 (by decide) ?_
          refine w_vret dX8_advance_76 ?_
          have u := uC_5 c_26 c_32 c_46 e
          exact k _ _ fb qb (TK_of u.1 (by rw [u.2.1]; exact x1) x2 x3 (fun _ => x4.trans u.2.2.symm) (fun e => absurd e (by decide)) (fun e => absurd e (by decide)))
        · refine k_v rfl ?_
          refine w_goto (tgt := 76) dX8_advance_53 (by decide) ?_
          refine w_vret dX8_advance_76 ?_
          have u := uC_t c_26 c_32 c_46 e
          exact k _ _ fb qb (TK_of u.1 (by rw [u.2]; exact x1.trans N1) x2 x3 (fun e => absurd e (by decide)) (fun e => absurd e (by decide)) (fun e => absurd e (by decide)))
    · refine w_aload_n dX8_advance_35 rfl rfl ?_
      refine w_iconst dX8_advance_36 (v := 0) (by decide) ?_
      refine kx_put2 f1 q1 dX8_advance_37 fX8_34 (fun h4 f4 q4 => ?_)
      refine w_goto (tgt := 76) dX8_advance_40 (by decide) ?_
      refine w_vret dX8_advance_76 ?_
      exact k _ _ f4 q4 (TK_of (uC_0 (Or.inr c_32)) (by rw [kG_o (by decide), uE_0 (Or.inr c_32)]; exact N1) (by rw [kG_s]; rfl) (by rw [kG_o (by decide)]; exact N3) (fun e => absurd e (by decide)) (fun e => absurd e (by decide)) (fun e => absurd e (by decide)))

