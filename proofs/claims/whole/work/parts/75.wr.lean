/-! write() of both, the same LINE -/
set_option maxRecDepth 20000 in
set_option maxHeartbeats 4000000 in
theorem T_iT0 {X : Nat × (Nat → Int32)} {h0 h : PH} {Q : Option Value → PH → Prop} {L : List Int32} {n : Nat} (hn : n < 65536) (hl : L = []) (ho : n / 4096 = 0) (f : FW h0 h) (q : LW h L) (k1 : ∀ h', FW h0 h' → LW h' (lwT (dN n) (nI n)) → ¬ dN n = 36 → Q (some (.int 1)) h') (k0 : dN n = 36 → Q (some (.int 0)) h) : WP X mX11_isTold 7 154 0 (en 2 [.ref 25, .int (nI n)]) [] h Q := by
  subst hl
  refine w_iload_n dX11_isTold_0 rfl rfl ?_
  refine w_bipush dX11_isTold_1 (v := 12) (by decide) ?_
  refine w_ishr dX11_isTold_3 ?_
  rw [sh_12 hn, ho, show nI 0 = 0 from rfl]
  refine w_tbE (off := 76) (tgt := 80) (show (0 : Int32) = 0 from rfl) dX11_isTold_4 (by decide) (by decide) (by decide) (by decide) ?_
  refine w_aload_n dX11_isTold_80 rfl rfl ?_
  refine w_iload_n dX11_isTold_81 rfl rfl ?_
  refine w_v1 (d2 := 5) (L2 := 108) dX11_isTold_82 vX11_387 rfl (q.1.lt (by decide)) rfl (by decide) (Nat.le_of_ble_eq_true rfl) (by decide) (by decide) ?_
  refine T_iBr hn rfl ho f q (fun hz fz qz dz => ?_) (fun dz => ?_)
  · refine k_i rfl ?_
    refine w_iret dX11_isTold_85 (fun _ e => by cases e; decide) ?_
    exact k1 _ fz qz dz
  · refine k_i rfl ?_
    refine w_iret dX11_isTold_85 (fun _ e => by cases e; decide) ?_
    exact k0 dz

set_option maxRecDepth 20000 in
set_option maxHeartbeats 4000000 in
theorem T_iT1 {X : Nat × (Nat → Int32)} {h0 h : PH} {Q : Option Value → PH → Prop} {L : List Int32} {n : Nat} (hn : n < 65536) (hl : L = []) (ho : n / 4096 = 1) (f : FW h0 h) (q : LW h L) (k1 : ∀ h', FW h0 h' → LW h' (lwT (dN n) (nI n)) → ¬ dN n = 36 → Q (some (.int 1)) h') (k0 : dN n = 36 → Q (some (.int 0)) h) : WP X mX11_isTold 7 154 0 (en 2 [.ref 25, .int (nI n)]) [] h Q := by
  subst hl
  refine w_iload_n dX11_isTold_0 rfl rfl ?_
  refine w_bipush dX11_isTold_1 (v := 12) (by decide) ?_
  refine w_ishr dX11_isTold_3 ?_
  rw [sh_12 hn, ho, show nI 1 = 1 from rfl]
  refine w_tbE (off := 82) (tgt := 86) (show (1 : Int32) = 1 from rfl) dX11_isTold_4 (by decide) (by decide) (by decide) (by decide) ?_
  refine w_aload_n dX11_isTold_86 rfl rfl ?_
  refine w_iconst dX11_isTold_87 (v := 0) (by decide) ?_
  refine w_iload_n dX11_isTold_88 rfl rfl ?_
  refine w_v2 (d2 := 6) (L2 := 130) dX11_isTold_89 vX11_390 rfl (q.1.lt (by decide)) rfl rfl (by decide) (Nat.le_of_ble_eq_true rfl) (by decide) (by decide) ?_
  refine T_iThA hn rfl ho f q (fun hz fz qz dz => ?_) (fun dz => ?_)
  · refine k_i rfl ?_
    refine w_iret dX11_isTold_92 (fun _ e => by cases e; decide) ?_
    exact k1 _ fz qz dz
  · refine k_i rfl ?_
    refine w_iret dX11_isTold_92 (fun _ e => by cases e; decide) ?_
    exact k0 dz

set_option maxRecDepth 20000 in
set_option maxHeartbeats 4000000 in
theorem T_iT2 {X : Nat × (Nat → Int32)} {h0 h : PH} {Q : Option Value → PH → Prop} {L : List Int32} {n : Nat} (hn : n < 65536) (hl : L = []) (ho : n / 4096 = 2) (f : FW h0 h) (q : LW h L) (k1 : ∀ h', FW h0 h' → LW h' (lwT (dN n) (nI n)) → ¬ dN n = 36 → Q (some (.int 1)) h') (k0 : dN n = 36 → Q (some (.int 0)) h) : WP X mX11_isTold 7 154 0 (en 2 [.ref 25, .int (nI n)]) [] h Q := by
  subst hl
  refine w_iload_n dX11_isTold_0 rfl rfl ?_
  refine w_bipush dX11_isTold_1 (v := 12) (by decide) ?_
  refine w_ishr dX11_isTold_3 ?_
  rw [sh_12 hn, ho, show nI 2 = 2 from rfl]
  refine w_tbE (off := 89) (tgt := 93) (show (2 : Int32) = 2 from rfl) dX11_isTold_4 (by decide) (by decide) (by decide) (by decide) ?_
  refine w_aload_n dX11_isTold_93 rfl rfl ?_
  refine w_iconst dX11_isTold_94 (v := 3) (by decide) ?_
  refine w_iload_n dX11_isTold_95 rfl rfl ?_
  refine w_v2 (d2 := 5) (L2 := 108) dX11_isTold_96 vX11_393 rfl (q.1.lt (by decide)) rfl rfl (by decide) (Nat.le_of_ble_eq_true rfl) (by decide) (by decide) ?_
  refine T_sWh (k9 := 3) (by decide) rfl f q (fun h1 f1 q1 => ?_)
  refine k_v rfl ?_
  refine w_iconst dX11_isTold_99 (v := 1) (by decide) ?_
  refine w_iret dX11_isTold_100 (fun _ e => by cases e; decide) ?_
  have dk : dN n = 17 := by
    unfold dN; rw [sr_12, ho]; rfl
  rw [dk] at k1
  refine k1 _ f1 ?_ (by decide)
  rw [lw_17]
  simp only [List.append_assoc, List.nil_append, List.append_nil, List.cons_append] at q1 ⊢
  exact q1

set_option maxRecDepth 20000 in
set_option maxHeartbeats 4000000 in
theorem T_iT3 {X : Nat × (Nat → Int32)} {h0 h : PH} {Q : Option Value → PH → Prop} {L : List Int32} {n : Nat} (hn : n < 65536) (hl : L = []) (ho : n / 4096 = 3) (f : FW h0 h) (q : LW h L) (k1 : ∀ h', FW h0 h' → LW h' (lwT (dN n) (nI n)) → ¬ dN n = 36 → Q (some (.int 1)) h') (k0 : dN n = 36 → Q (some (.int 0)) h) : WP X mX11_isTold 7 154 0 (en 2 [.ref 25, .int (nI n)]) [] h Q := by
  subst hl
  refine w_iload_n dX11_isTold_0 rfl rfl ?_
  refine w_bipush dX11_isTold_1 (v := 12) (by decide) ?_
  refine w_ishr dX11_isTold_3 ?_
  rw [sh_12 hn, ho, show nI 3 = 3 from rfl]
  refine w_tbE (off := 97) (tgt := 101) (show (3 : Int32) = 3 from rfl) dX11_isTold_4 (by decide) (by decide) (by decide) (by decide) ?_
  refine w_aload_n dX11_isTold_101 rfl rfl ?_
  refine w_bipush dX11_isTold_102 (v := 6) (by decide) ?_
  refine w_iload_n dX11_isTold_104 rfl rfl ?_
  refine w_v2 (d2 := 5) (L2 := 108) dX11_isTold_105 vX11_393 rfl (q.1.lt (by decide)) rfl rfl (by decide) (Nat.le_of_ble_eq_true rfl) (by decide) (by decide) ?_
  refine T_sWh (k9 := 6) (by decide) rfl f q (fun h1 f1 q1 => ?_)
  refine k_v rfl ?_
  refine w_iconst dX11_isTold_108 (v := 1) (by decide) ?_
  refine w_iret dX11_isTold_109 (fun _ e => by cases e; decide) ?_
  have dk : dN n = 20 := by
    unfold dN; rw [sr_12, ho]; rfl
  rw [dk] at k1
  refine k1 _ f1 ?_ (by decide)
  rw [lw_20]
  simp only [List.append_assoc, List.nil_append, List.append_nil, List.cons_append] at q1 ⊢
  exact q1

set_option maxRecDepth 20000 in
set_option maxHeartbeats 4000000 in
theorem T_iT4 {X : Nat × (Nat → Int32)} {h0 h : PH} {Q : Option Value → PH → Prop} {L : List Int32} {n : Nat} (hn : n < 65536) (hl : L = []) (ho : n / 4096 = 4) (f : FW h0 h) (q : LW h L) (k1 : ∀ h', FW h0 h' → LW h' (lwT (dN n) (nI n)) → ¬ dN n = 36 → Q (some (.int 1)) h') (k0 : dN n = 36 → Q (some (.int 0)) h) : WP X mX11_isTold 7 154 0 (en 2 [.ref 25, .int (nI n)]) [] h Q := by
  subst hl
  refine w_iload_n dX11_isTold_0 rfl rfl ?_
  refine w_bipush dX11_isTold_1 (v := 12) (by decide) ?_
  refine w_ishr dX11_isTold_3 ?_
  rw [sh_12 hn, ho, show nI 4 = 4 from rfl]
  refine w_tbE (off := 106) (tgt := 110) (show (4 : Int32) = 4 from rfl) dX11_isTold_4 (by decide) (by decide) (by decide) (by decide) ?_
  refine w_aload_n dX11_isTold_110 rfl rfl ?_
  refine w_iload_n dX11_isTold_111 rfl rfl ?_
  refine w_v1 (d2 := 5) (L2 := 108) dX11_isTold_112 vX11_396 rfl (q.1.lt (by decide)) rfl (by decide) (Nat.le_of_ble_eq_true rfl) (by decide) (by decide) ?_
  refine T_iJp hn rfl ho f q (fun hz fz qz dz => ?_) (fun dz => ?_)
  · refine k_i rfl ?_
    refine w_iret dX11_isTold_115 (fun _ e => by cases e; decide) ?_
    exact k1 _ fz qz dz
  · refine k_i rfl ?_
    refine w_iret dX11_isTold_115 (fun _ e => by cases e; decide) ?_
    exact k0 dz

set_option maxRecDepth 20000 in
set_option maxHeartbeats 4000000 in
theorem T_iT5 {X : Nat × (Nat → Int32)} {h0 h : PH} {Q : Option Value → PH → Prop} {L : List Int32} {n : Nat} (hn : n < 65536) (hl : L = []) (ho : n / 4096 = 5) (f : FW h0 h) (q : LW h L) (k1 : ∀ h', FW h0 h' → LW h' (lwT (dN n) (nI n)) → ¬ dN n = 36 → Q (some (.int 1)) h') (k0 : dN n = 36 → Q (some (.int 0)) h) : WP X mX11_isTold 7 154 0 (en 2 [.ref 25, .int (nI n)]) [] h Q := by
  subst hl
  refine w_iload_n dX11_isTold_0 rfl rfl ?_
  refine w_bipush dX11_isTold_1 (v := 12) (by decide) ?_
  refine w_ishr dX11_isTold_3 ?_
  rw [sh_12 hn, ho, show nI 5 = 5 from rfl]
  refine w_tbE (off := 112) (tgt := 116) (show (5 : Int32) = 5 from rfl) dX11_isTold_4 (by decide) (by decide) (by decide) (by decide) ?_
  refine w_aload_n dX11_isTold_116 rfl rfl ?_
  refine w_iconst dX11_isTold_117 (v := 1) (by decide) ?_
  refine w_iload_n dX11_isTold_118 rfl rfl ?_
  refine w_v2 (d2 := 6) (L2 := 130) dX11_isTold_119 vX11_390 rfl (q.1.lt (by decide)) rfl rfl (by decide) (Nat.le_of_ble_eq_true rfl) (by decide) (by decide) ?_
  refine T_iThN hn rfl ho f q (fun hz fz qz dz => ?_) (fun dz => ?_)
  · refine k_i rfl ?_
    refine w_iret dX11_isTold_122 (fun _ e => by cases e; decide) ?_
    exact k1 _ fz qz dz
  · refine k_i rfl ?_
    refine w_iret dX11_isTold_122 (fun _ e => by cases e; decide) ?_
    exact k0 dz

set_option maxRecDepth 20000 in
set_option maxHeartbeats 4000000 in
theorem T_iT6 {X : Nat × (Nat → Int32)} {h0 h : PH} {Q : Option Value → PH → Prop} {L : List Int32} {n : Nat} (hn : n < 65536) (hl : L = []) (ho : n / 4096 = 6) (f : FW h0 h) (q : LW h L) (k1 : ∀ h', FW h0 h' → LW h' (lwT (dN n) (nI n)) → ¬ dN n = 36 → Q (some (.int 1)) h') (k0 : dN n = 36 → Q (some (.int 0)) h) : WP X mX11_isTold 7 154 0 (en 2 [.ref 25, .int (nI n)]) [] h Q := by
  subst hl
  refine w_iload_n dX11_isTold_0 rfl rfl ?_
  refine w_bipush dX11_isTold_1 (v := 12) (by decide) ?_
  refine w_ishr dX11_isTold_3 ?_
  rw [sh_12 hn, ho, show nI 6 = 6 from rfl]
  refine w_tbE (off := 119) (tgt := 123) (show (6 : Int32) = 6 from rfl) dX11_isTold_4 (by decide) (by decide) (by decide) (by decide) ?_
  refine w_aload_n dX11_isTold_123 rfl rfl ?_
  refine w_iload_n dX11_isTold_124 rfl rfl ?_
  refine w_bipush dX11_isTold_125 (v := 12) (by decide) ?_
  refine w_ishr dX11_isTold_127 ?_
  rw [sh_12 hn, ho, show nI 6 = 6 from rfl]
  refine w_bipush dX11_isTold_128 (v := 6) (by decide) ?_
  refine w_icmp_ne (tgt := 138) dX11_isTold_130 (by decide) (fun c_130 => absurd c_130 (by decide)) (fun c_130 => ?_)
  refine w_bipush dX11_isTold_133 (v := 8) (by decide) ?_
  refine w_goto (tgt := 140) dX11_isTold_135 (by decide) ?_
  refine w_iload_n dX11_isTold_140 rfl rfl ?_
  refine w_v2 (d2 := 5) (L2 := 108) dX11_isTold_141 vX11_399 rfl (q.1.lt (by decide)) rfl rfl (by decide) (Nat.le_of_ble_eq_true rfl) (by decide) (by decide) ?_
  refine T_sTw (k9 := 8) (by decide) rfl f q (fun h1 f1 q1 => ?_)
  refine k_v rfl ?_
  refine w_aload_n dX11_isTold_144 rfl rfl ?_
  refine w_v0 (d2 := 1) (L2 := 21) dX11_isTold_145 vX11_381 rfl (q1.1.lt (by decide)) (by decide) (Nat.le_of_ble_eq_true rfl) (by decide) (by decide) ?_
  refine T_sbt (Nat.le_of_ble_eq_true rfl) f1 q1 (fun h2 f2 q2 => ?_)
  refine k_v rfl ?_
  refine w_aload_n dX11_isTold_148 rfl rfl ?_
  refine w_iload_n dX11_isTold_149 rfl rfl ?_
  refine w_bipush dX11_isTold_150 (v := 6) (by decide) ?_
  refine w_s2 (d2 := 0) (L2 := 0) dX11_isTold_152 vX11_154 rfl rfl (by decide) (Nat.le_of_ble_eq_true rfl) (by decide) (by decide) ?_
  refine T_sgM ?_
  refine k_i rfl ?_
  refine w_v1 (d2 := 1) (L2 := 21) dX11_isTold_155 vX11_384 rfl (q2.1.lt (by decide)) rfl (by decide) (Nat.le_of_ble_eq_true rfl) (by decide) (by decide) ?_
  refine T_snm (Nat.le_of_ble_eq_true rfl) f2 q2 (fun h3 f3 q3 => ?_)
  refine k_v rfl ?_
  refine w_iconst dX11_isTold_158 (v := 1) (by decide) ?_
  refine w_iret dX11_isTold_159 (fun _ e => by cases e; decide) ?_
  have dk : dN n = 22 := by
    unfold dN; rw [sr_12, ho]; rfl
  rw [dk] at k1
  refine k1 _ f3 ?_ (by decide)
  rw [lw_22, ← (nv_6 (nI n)).1, ← sg6]
  simp only [List.append_assoc, List.nil_append, List.append_nil, List.cons_append] at q3 ⊢
  exact q3

set_option maxRecDepth 20000 in
set_option maxHeartbeats 4000000 in
theorem T_iT7 {X : Nat × (Nat → Int32)} {h0 h : PH} {Q : Option Value → PH → Prop} {L : List Int32} {n : Nat} (hn : n < 65536) (hl : L = []) (ho : n / 4096 = 7) (f : FW h0 h) (q : LW h L) (k1 : ∀ h', FW h0 h' → LW h' (lwT (dN n) (nI n)) → ¬ dN n = 36 → Q (some (.int 1)) h') (k0 : dN n = 36 → Q (some (.int 0)) h) : WP X mX11_isTold 7 154 0 (en 2 [.ref 25, .int (nI n)]) [] h Q := by
  subst hl
  refine w_iload_n dX11_isTold_0 rfl rfl ?_
  refine w_bipush dX11_isTold_1 (v := 12) (by decide) ?_
  refine w_ishr dX11_isTold_3 ?_
  rw [sh_12 hn, ho, show nI 7 = 7 from rfl]
  refine w_tbE (off := 119) (tgt := 123) (show (7 : Int32) = 7 from rfl) dX11_isTold_4 (by decide) (by decide) (by decide) (by decide) ?_
  refine w_aload_n dX11_isTold_123 rfl rfl ?_
  refine w_iload_n dX11_isTold_124 rfl rfl ?_
  refine w_bipush dX11_isTold_125 (v := 12) (by decide) ?_
  refine w_ishr dX11_isTold_127 ?_
  rw [sh_12 hn, ho, show nI 7 = 7 from rfl]
  refine w_bipush dX11_isTold_128 (v := 6) (by decide) ?_
  refine w_icmp_ne (tgt := 138) dX11_isTold_130 (by decide) (fun c_130 => ?_) (fun c_130 => absurd c_130 (by decide))
  refine w_bipush dX11_isTold_138 (v := 9) (by decide) ?_
  refine w_iload_n dX11_isTold_140 rfl rfl ?_
  refine w_v2 (d2 := 5) (L2 := 108) dX11_isTold_141 vX11_399 rfl (q.1.lt (by decide)) rfl rfl (by decide) (Nat.le_of_ble_eq_true rfl) (by decide) (by decide) ?_
  refine T_sTw (k9 := 9) (by decide) rfl f q (fun h1 f1 q1 => ?_)
  refine k_v rfl ?_
  refine w_aload_n dX11_isTold_144 rfl rfl ?_
  refine w_v0 (d2 := 1) (L2 := 21) dX11_isTold_145 vX11_381 rfl (q1.1.lt (by decide)) (by decide) (Nat.le_of_ble_eq_true rfl) (by decide) (by decide) ?_
  refine T_sbt (Nat.le_of_ble_eq_true rfl) f1 q1 (fun h2 f2 q2 => ?_)
  refine k_v rfl ?_
  refine w_aload_n dX11_isTold_148 rfl rfl ?_
  refine w_iload_n dX11_isTold_149 rfl rfl ?_
  refine w_bipush dX11_isTold_150 (v := 6) (by decide) ?_
  refine w_s2 (d2 := 0) (L2 := 0) dX11_isTold_152 vX11_154 rfl rfl (by decide) (Nat.le_of_ble_eq_true rfl) (by decide) (by decide) ?_
  refine T_sgM ?_
  refine k_i rfl ?_
  refine w_v1 (d2 := 1) (L2 := 21) dX11_isTold_155 vX11_384 rfl (q2.1.lt (by decide)) rfl (by decide) (Nat.le_of_ble_eq_true rfl) (by decide) (by decide) ?_
  refine T_snm (Nat.le_of_ble_eq_true rfl) f2 q2 (fun h3 f3 q3 => ?_)
  refine k_v rfl ?_
  refine w_iconst dX11_isTold_158 (v := 1) (by decide) ?_
  refine w_iret dX11_isTold_159 (fun _ e => by cases e; decide) ?_
  have dk : dN n = 23 := by
    unfold dN; rw [sr_12, ho]; rfl
  rw [dk] at k1
  refine k1 _ f3 ?_ (by decide)
  rw [lw_23, ← (nv_6 (nI n)).1, ← sg6]
  simp only [List.append_assoc, List.nil_append, List.append_nil, List.cons_append] at q3 ⊢
  exact q3

set_option maxRecDepth 20000 in
set_option maxHeartbeats 4000000 in
theorem T_iT8 {X : Nat × (Nat → Int32)} {h0 h : PH} {Q : Option Value → PH → Prop} {L : List Int32} {n : Nat} (hn : n < 65536) (hl : L = []) (ho : n / 4096 = 8) (f : FW h0 h) (q : LW h L) (k1 : ∀ h', FW h0 h' → LW h' (lwT (dN n) (nI n)) → ¬ dN n = 36 → Q (some (.int 1)) h') (k0 : dN n = 36 → Q (some (.int 0)) h) : WP X mX11_isTold 7 154 0 (en 2 [.ref 25, .int (nI n)]) [] h Q := by
  subst hl
  refine w_iload_n dX11_isTold_0 rfl rfl ?_
  refine w_bipush dX11_isTold_1 (v := 12) (by decide) ?_
  refine w_ishr dX11_isTold_3 ?_
  rw [sh_12 hn, ho, show nI 8 = 8 from rfl]
  refine w_tbE (off := 181) (tgt := 185) (show (8 : Int32) = 8 from rfl) dX11_isTold_4 (by decide) (by decide) (by decide) (by decide) ?_
  refine w_aload_n dX11_isTold_185 rfl rfl ?_
  refine w_iload_n dX11_isTold_186 rfl rfl ?_
  refine w_v1 (d2 := 6) (L2 := 130) dX11_isTold_187 vX11_402 rfl (q.1.lt (by decide)) rfl (by decide) (Nat.le_of_ble_eq_true rfl) (by decide) (by decide) ?_
  refine T_iRe8 hn rfl ho f q (fun hz fz qz dz => ?_) (fun dz => ?_)
  · refine k_i rfl ?_
    refine w_iret dX11_isTold_190 (fun _ e => by cases e; decide) ?_
    exact k1 _ fz qz dz
  · refine k_i rfl ?_
    refine w_iret dX11_isTold_190 (fun _ e => by cases e; decide) ?_
    exact k0 dz

set_option maxRecDepth 20000 in
set_option maxHeartbeats 4000000 in
theorem T_iT9 {X : Nat × (Nat → Int32)} {h0 h : PH} {Q : Option Value → PH → Prop} {L : List Int32} {n : Nat} (hn : n < 65536) (hl : L = []) (ho : n / 4096 = 9) (f : FW h0 h) (q : LW h L) (k1 : ∀ h', FW h0 h' → LW h' (lwT (dN n) (nI n)) → ¬ dN n = 36 → Q (some (.int 1)) h') (k0 : dN n = 36 → Q (some (.int 0)) h) : WP X mX11_isTold 7 154 0 (en 2 [.ref 25, .int (nI n)]) [] h Q := by
  subst hl
  refine w_iload_n dX11_isTold_0 rfl rfl ?_
  refine w_bipush dX11_isTold_1 (v := 12) (by decide) ?_
  refine w_ishr dX11_isTold_3 ?_
  rw [sh_12 hn, ho, show nI 9 = 9 from rfl]
  refine w_tbE (off := 181) (tgt := 185) (show (9 : Int32) = 9 from rfl) dX11_isTold_4 (by decide) (by decide) (by decide) (by decide) ?_
  refine w_aload_n dX11_isTold_185 rfl rfl ?_
  refine w_iload_n dX11_isTold_186 rfl rfl ?_
  refine w_v1 (d2 := 6) (L2 := 130) dX11_isTold_187 vX11_402 rfl (q.1.lt (by decide)) rfl (by decide) (Nat.le_of_ble_eq_true rfl) (by decide) (by decide) ?_
  refine T_iRe9 hn rfl ho f q (fun hz fz qz dz => ?_) (fun dz => ?_)
  · refine k_i rfl ?_
    refine w_iret dX11_isTold_190 (fun _ e => by cases e; decide) ?_
    exact k1 _ fz qz dz
  · refine k_i rfl ?_
    refine w_iret dX11_isTold_190 (fun _ e => by cases e; decide) ?_
    exact k0 dz

set_option maxRecDepth 20000 in
set_option maxHeartbeats 4000000 in
theorem T_iT10 {X : Nat × (Nat → Int32)} {h0 h : PH} {Q : Option Value → PH → Prop} {L : List Int32} {n : Nat} (hn : n < 65536) (hl : L = []) (ho : n / 4096 = 10) (f : FW h0 h) (q : LW h L) (k1 : ∀ h', FW h0 h' → LW h' (lwT (dN n) (nI n)) → ¬ dN n = 36 → Q (some (.int 1)) h') (k0 : dN n = 36 → Q (some (.int 0)) h) : WP X mX11_isTold 7 154 0 (en 2 [.ref 25, .int (nI n)]) [] h Q := by
  subst hl
  refine w_iload_n dX11_isTold_0 rfl rfl ?_
  refine w_bipush dX11_isTold_1 (v := 12) (by decide) ?_
  refine w_ishr dX11_isTold_3 ?_
  rw [sh_12 hn, ho, show nI 10 = 10 from rfl]
  refine w_tbE (off := 156) (tgt := 160) (show (10 : Int32) = 10 from rfl) dX11_isTold_4 (by decide) (by decide) (by decide) (by decide) ?_
  refine w_aload_n dX11_isTold_160 rfl rfl ?_
  refine w_iconst dX11_isTold_161 (v := 4) (by decide) ?_
  refine w_iload_n dX11_isTold_162 rfl rfl ?_
  refine w_v2 (d2 := 5) (L2 := 108) dX11_isTold_163 vX11_393 rfl (q.1.lt (by decide)) rfl rfl (by decide) (Nat.le_of_ble_eq_true rfl) (by decide) (by decide) ?_
  refine T_sWh (k9 := 4) (by decide) rfl f q (fun h1 f1 q1 => ?_)
  refine k_v rfl ?_
  refine w_iconst dX11_isTold_166 (v := 1) (by decide) ?_
  refine w_iret dX11_isTold_167 (fun _ e => by cases e; decide) ?_
  have dk : dN n = 18 := by
    unfold dN; rw [sr_12, ho]; rfl
  rw [dk] at k1
  refine k1 _ f1 ?_ (by decide)
  rw [lw_18]
  simp only [List.append_assoc, List.nil_append, List.append_nil, List.cons_append] at q1 ⊢
  exact q1

set_option maxRecDepth 20000 in
set_option maxHeartbeats 4000000 in
theorem T_iT11 {X : Nat × (Nat → Int32)} {h0 h : PH} {Q : Option Value → PH → Prop} {L : List Int32} {n : Nat} (hn : n < 65536) (hl : L = []) (ho : n / 4096 = 11) (f : FW h0 h) (q : LW h L) (k1 : ∀ h', FW h0 h' → LW h' (lwT (dN n) (nI n)) → ¬ dN n = 36 → Q (some (.int 1)) h') (k0 : dN n = 36 → Q (some (.int 0)) h) : WP X mX11_isTold 7 154 0 (en 2 [.ref 25, .int (nI n)]) [] h Q := by
  subst hl
  refine w_iload_n dX11_isTold_0 rfl rfl ?_
  refine w_bipush dX11_isTold_1 (v := 12) (by decide) ?_
  refine w_ishr dX11_isTold_3 ?_
  rw [sh_12 hn, ho, show nI 11 = 11 from rfl]
  refine w_tbE (off := 164) (tgt := 168) (show (11 : Int32) = 11 from rfl) dX11_isTold_4 (by decide) (by decide) (by decide) (by decide) ?_
  refine w_aload_n dX11_isTold_168 rfl rfl ?_
  refine w_bipush dX11_isTold_169 (v := 7) (by decide) ?_
  refine w_iload_n dX11_isTold_171 rfl rfl ?_
  refine w_v2 (d2 := 5) (L2 := 108) dX11_isTold_172 vX11_393 rfl (q.1.lt (by decide)) rfl rfl (by decide) (Nat.le_of_ble_eq_true rfl) (by decide) (by decide) ?_
  refine T_sWh (k9 := 7) (by decide) rfl f q (fun h1 f1 q1 => ?_)
  refine k_v rfl ?_
  refine w_iconst dX11_isTold_175 (v := 1) (by decide) ?_
  refine w_iret dX11_isTold_176 (fun _ e => by cases e; decide) ?_
  have dk : dN n = 21 := by
    unfold dN; rw [sr_12, ho]; rfl
  rw [dk] at k1
  refine k1 _ f1 ?_ (by decide)
  rw [lw_21]
  simp only [List.append_assoc, List.nil_append, List.append_nil, List.cons_append] at q1 ⊢
  exact q1

set_option maxRecDepth 20000 in
set_option maxHeartbeats 4000000 in
theorem T_iT12 {X : Nat × (Nat → Int32)} {h0 h : PH} {Q : Option Value → PH → Prop} {L : List Int32} {n : Nat} (hn : n < 65536) (hl : L = []) (ho : n / 4096 = 12) (f : FW h0 h) (q : LW h L) (k1 : ∀ h', FW h0 h' → LW h' (lwT (dN n) (nI n)) → ¬ dN n = 36 → Q (some (.int 1)) h') (k0 : dN n = 36 → Q (some (.int 0)) h) : WP X mX11_isTold 7 154 0 (en 2 [.ref 25, .int (nI n)]) [] h Q := by
  subst hl
  refine w_iload_n dX11_isTold_0 rfl rfl ?_
  refine w_bipush dX11_isTold_1 (v := 12) (by decide) ?_
  refine w_ishr dX11_isTold_3 ?_
  rw [sh_12 hn, ho, show nI 12 = 12 from rfl]
  refine w_tbE (off := 181) (tgt := 185) (show (12 : Int32) = 12 from rfl) dX11_isTold_4 (by decide) (by decide) (by decide) (by decide) ?_
  refine w_aload_n dX11_isTold_185 rfl rfl ?_
  refine w_iload_n dX11_isTold_186 rfl rfl ?_
  refine w_v1 (d2 := 6) (L2 := 130) dX11_isTold_187 vX11_402 rfl (q.1.lt (by decide)) rfl (by decide) (Nat.le_of_ble_eq_true rfl) (by decide) (by decide) ?_
  refine T_iRe12 hn rfl ho f q (fun hz fz qz dz => ?_) (fun dz => ?_)
  · refine k_i rfl ?_
    refine w_iret dX11_isTold_190 (fun _ e => by cases e; decide) ?_
    exact k1 _ fz qz dz
  · refine k_i rfl ?_
    refine w_iret dX11_isTold_190 (fun _ e => by cases e; decide) ?_
    exact k0 dz

set_option maxRecDepth 20000 in
set_option maxHeartbeats 4000000 in
theorem T_iT13 {X : Nat × (Nat → Int32)} {h0 h : PH} {Q : Option Value → PH → Prop} {L : List Int32} {n : Nat} (hn : n < 65536) (hl : L = []) (ho : n / 4096 = 13) (f : FW h0 h) (q : LW h L) (k1 : ∀ h', FW h0 h' → LW h' (lwT (dN n) (nI n)) → ¬ dN n = 36 → Q (some (.int 1)) h') (k0 : dN n = 36 → Q (some (.int 0)) h) : WP X mX11_isTold 7 154 0 (en 2 [.ref 25, .int (nI n)]) [] h Q := by
  subst hl
  refine w_iload_n dX11_isTold_0 rfl rfl ?_
  refine w_bipush dX11_isTold_1 (v := 12) (by decide) ?_
  refine w_ishr dX11_isTold_3 ?_
  rw [sh_12 hn, ho, show nI 13 = 13 from rfl]
  refine w_tbE (off := 181) (tgt := 185) (show (13 : Int32) = 13 from rfl) dX11_isTold_4 (by decide) (by decide) (by decide) (by decide) ?_
  refine w_aload_n dX11_isTold_185 rfl rfl ?_
  refine w_iload_n dX11_isTold_186 rfl rfl ?_
  refine w_v1 (d2 := 6) (L2 := 130) dX11_isTold_187 vX11_402 rfl (q.1.lt (by decide)) rfl (by decide) (Nat.le_of_ble_eq_true rfl) (by decide) (by decide) ?_
  refine T_iRe13 hn rfl ho f q (fun hz fz qz dz => ?_) (fun dz => ?_)
  · refine k_i rfl ?_
    refine w_iret dX11_isTold_190 (fun _ e => by cases e; decide) ?_
    exact k1 _ fz qz dz
  · refine k_i rfl ?_
    refine w_iret dX11_isTold_190 (fun _ e => by cases e; decide) ?_
    exact k0 dz

set_option maxRecDepth 20000 in
set_option maxHeartbeats 4000000 in
theorem T_iT14 {X : Nat × (Nat → Int32)} {h0 h : PH} {Q : Option Value → PH → Prop} {L : List Int32} {n : Nat} (hn : n < 65536) (hl : L = []) (ho : n / 4096 = 14) (f : FW h0 h) (q : LW h L) (k1 : ∀ h', FW h0 h' → LW h' (lwT (dN n) (nI n)) → ¬ dN n = 36 → Q (some (.int 1)) h') (k0 : dN n = 36 → Q (some (.int 0)) h) : WP X mX11_isTold 7 154 0 (en 2 [.ref 25, .int (nI n)]) [] h Q := by
  subst hl
  refine w_iload_n dX11_isTold_0 rfl rfl ?_
  refine w_bipush dX11_isTold_1 (v := 12) (by decide) ?_
  refine w_ishr dX11_isTold_3 ?_
  rw [sh_12 hn, ho, show nI 14 = 14 from rfl]
  refine w_tbE (off := 173) (tgt := 177) (show (14 : Int32) = 14 from rfl) dX11_isTold_4 (by decide) (by decide) (by decide) (by decide) ?_
  refine w_aload_n dX11_isTold_177 rfl rfl ?_
  refine w_iconst dX11_isTold_178 (v := 5) (by decide) ?_
  refine w_iload_n dX11_isTold_179 rfl rfl ?_
  refine w_v2 (d2 := 5) (L2 := 108) dX11_isTold_180 vX11_393 rfl (q.1.lt (by decide)) rfl rfl (by decide) (Nat.le_of_ble_eq_true rfl) (by decide) (by decide) ?_
  refine T_sWh (k9 := 5) (by decide) rfl f q (fun h1 f1 q1 => ?_)
  refine k_v rfl ?_
  refine w_iconst dX11_isTold_183 (v := 1) (by decide) ?_
  refine w_iret dX11_isTold_184 (fun _ e => by cases e; decide) ?_
  have dk : dN n = 19 := by
    unfold dN; rw [sr_12, ho]; rfl
  rw [dk] at k1
  refine k1 _ f1 ?_ (by decide)
  rw [lw_19]
  simp only [List.append_assoc, List.nil_append, List.append_nil, List.cons_append] at q1 ⊢
  exact q1

set_option maxRecDepth 20000 in
set_option maxHeartbeats 4000000 in
theorem T_iT15 {X : Nat × (Nat → Int32)} {h0 h : PH} {Q : Option Value → PH → Prop} {L : List Int32} {n : Nat} (hn : n < 65536) (hl : L = []) (ho : n / 4096 = 15) (f : FW h0 h) (q : LW h L) (k1 : ∀ h', FW h0 h' → LW h' (lwT (dN n) (nI n)) → ¬ dN n = 36 → Q (some (.int 1)) h') (k0 : dN n = 36 → Q (some (.int 0)) h) : WP X mX11_isTold 7 154 0 (en 2 [.ref 25, .int (nI n)]) [] h Q := by
  subst hl
  refine w_iload_n dX11_isTold_0 rfl rfl ?_
  refine w_bipush dX11_isTold_1 (v := 12) (by decide) ?_
  refine w_ishr dX11_isTold_3 ?_
  rw [sh_12 hn, ho, show nI 15 = 15 from rfl]
  refine w_tableOut (tgt := 185) dX11_isTold_4 (by decide) (by decide) ?_
  refine w_aload_n dX11_isTold_185 rfl rfl ?_
  refine w_iload_n dX11_isTold_186 rfl rfl ?_
  refine w_v1 (d2 := 6) (L2 := 130) dX11_isTold_187 vX11_402 rfl (q.1.lt (by decide)) rfl (by decide) (Nat.le_of_ble_eq_true rfl) (by decide) (by decide) ?_
  refine T_iRe15 hn rfl ho f q (fun hz fz qz dz => ?_) (fun dz => ?_)
  · refine k_i rfl ?_
    refine w_iret dX11_isTold_190 (fun _ e => by cases e; decide) ?_
    exact k1 _ fz qz dz
  · refine k_i rfl ?_
    refine w_iret dX11_isTold_190 (fun _ e => by cases e; decide) ?_
    exact k0 dz

theorem T_iTold {X : Nat × (Nat → Int32)} {h0 h : PH} {Q : Option Value → PH → Prop} {L : List Int32} {n : Nat} (hn : n < 65536) (hl : L = []) (f : FW h0 h) (q : LW h L) (k1 : ∀ h', FW h0 h' → LW h' (lwT (dN n) (nI n)) → ¬ dN n = 36 → Q (some (.int 1)) h') (k0 : dN n = 36 → Q (some (.int 0)) h) : WP X mX11_isTold 7 154 0 (en 2 [.ref 25, .int (nI n)]) [] h Q := by
  by_cases o0 : n / 4096 = 0
  · exact T_iT0 hn hl o0 f q k1 k0
  by_cases o1 : n / 4096 = 1
  · exact T_iT1 hn hl o1 f q k1 k0
  by_cases o2 : n / 4096 = 2
  · exact T_iT2 hn hl o2 f q k1 k0
  by_cases o3 : n / 4096 = 3
  · exact T_iT3 hn hl o3 f q k1 k0
  by_cases o4 : n / 4096 = 4
  · exact T_iT4 hn hl o4 f q k1 k0
  by_cases o5 : n / 4096 = 5
  · exact T_iT5 hn hl o5 f q k1 k0
  by_cases o6 : n / 4096 = 6
  · exact T_iT6 hn hl o6 f q k1 k0
  by_cases o7 : n / 4096 = 7
  · exact T_iT7 hn hl o7 f q k1 k0
  by_cases o8 : n / 4096 = 8
  · exact T_iT8 hn hl o8 f q k1 k0
  by_cases o9 : n / 4096 = 9
  · exact T_iT9 hn hl o9 f q k1 k0
  by_cases o10 : n / 4096 = 10
  · exact T_iT10 hn hl o10 f q k1 k0
  by_cases o11 : n / 4096 = 11
  · exact T_iT11 hn hl o11 f q k1 k0
  by_cases o12 : n / 4096 = 12
  · exact T_iT12 hn hl o12 f q k1 k0
  by_cases o13 : n / 4096 = 13
  · exact T_iT13 hn hl o13 f q k1 k0
  by_cases o14 : n / 4096 = 14
  · exact T_iT14 hn hl o14 f q k1 k0
  by_cases o15 : n / 4096 = 15
  · exact T_iT15 hn hl o15 f q k1 k0
  omega

set_option maxRecDepth 20000 in
set_option maxHeartbeats 4000000 in
theorem T_mwrite {X : Nat × (Nat → Int32)} {h : PH} {Q : Option Value → PH → Prop} {τ : MS} {p : Int32} {n : Nat} (hn : n < 65536) (hl : mlk τ (p &&& 65535) = nI n) (q : RM h τ) (k : ∀ h', FW (sI (sI h 25 0 0) 25 38 0) h' → LW h' (lwT (dN n) (nI n)) → Q (some (.int (nI (lwT (dN n) (nI n)).length))) h') : WP X mX11_write 8 175 0 (en 3 [.ref 25, .int p]) [] h Q := by
  refine w_aload_n dX11_write_0 rfl rfl ?_
  refine w_iconst dX11_write_1 (v := 0) (by decide) ?_
  refine y_thr q dX11_write_2 fX11_60 (fun f1 q1 => ?_)
  refine w_aload_n dX11_write_5 rfl rfl ?_
  refine w_iload_n dX11_write_6 rfl rfl ?_
  refine w_s1 (d2 := 0) (L2 := 0) dX11_write_7 vX11_93 rfl (by decide) (Nat.le_of_ble_eq_true rfl) (by decide) (by decide) ?_
  refine T_cut ?_
  refine k_i rfl ?_
  refine w_v1 (d2 := 0) (L2 := 0) dX11_write_10 vX11_97 rfl (q1.1.lt (by decide)) rfl (by decide) (Nat.le_of_ble_eq_true rfl) (by decide) (by decide) ?_
  refine T_seen (in16 _) q1 ?_
  rw [hl]
  refine k_i rfl ?_
  refine w_istore_n dX11_write_13 rfl (by decide) ?_
  refine w_aload_n dX11_write_14 rfl rfl ?_
  refine w_iconst dX11_write_15 (v := 0) (by decide) ?_
  refine w_pi q1.1 dX11_write_16 fX11_363 rfl rfl (by decide) ?_
  have f : FW (sI (sI h 25 0 0) 25 38 0) (sI (sI h 25 0 0) 25 38 0) := FW.rf
  have q : LW (sI (sI h 25 0 0) 25 38 0) [] := ⟨q1.1.i, by rw [rI, if_pos rfl, if_pos rfl]; rfl, by decide, fun i v hv => by cases hv⟩
  refine w_aload_n dX11_write_19 rfl rfl ?_
  refine w_iload_n dX11_write_20 rfl rfl ?_
  refine w_v1 (d2 := 7) (L2 := 154) dX11_write_21 vX11_369 rfl (q.1.lt (by decide)) rfl (by decide) (Nat.le_of_ble_eq_true rfl) (by decide) (by decide) ?_
  refine T_iTold hn rfl f q (fun hz fz qz dz => ?_) (fun dz => ?_)
  · refine k_i rfl ?_
    refine w_if_ne (tgt := 45) dX11_write_24 (by decide) (fun c_24 => ?_) (fun c_24 => absurd c_24 (by decide))
    refine w_aload_n dX11_write_45 rfl rfl ?_
    refine w_gi qz.1 dX11_write_46 fX11_363 rfl rfl (by decide) ?_
    refine w_iret dX11_write_49 (fun _ e => by cases e; rfl) ?_
    rw [qz.2.1]; exact k _ fz qz
  · refine k_i rfl ?_
    refine w_if_ne (tgt := 45) dX11_write_24 (by decide) (fun c_24 => absurd c_24 (by decide)) (fun c_24 => ?_)
    refine w_aload_n dX11_write_27 rfl rfl ?_
    refine w_bipush dX11_write_28 (v := 31) (by decide) ?_
    refine w_v1 (d2 := 4) (L2 := 85) dX11_write_30 vX11_372 rfl (q.1.lt (by decide)) rfl (by decide) (Nat.le_of_ble_eq_true rfl) (by decide) (by decide) ?_
    refine T_sayN (k9 := 31) (by decide) (Nat.le_of_ble_eq_true rfl) f q (fun h1 f1 q1 => ?_)
    refine k_v rfl ?_
    refine w_aload_n dX11_write_33 rfl rfl ?_
    refine w_bipush dX11_write_34 (v := 32) (by decide) ?_
    refine w_v1 (d2 := 0) (L2 := 0) dX11_write_36 vX11_366 rfl (q1.1.lt (by decide)) rfl (by decide) (Nat.le_of_ble_eq_true rfl) (by decide) (by decide) ?_
    refine T_say (Nat.le_of_ble_eq_true rfl) f1 q1 (fun h2 f2 q2 => ?_)
    refine k_v rfl ?_
    refine w_aload_n dX11_write_39 rfl rfl ?_
    refine w_iload_n dX11_write_40 rfl rfl ?_
    refine w_iconst dX11_write_41 (v := 4) (by decide) ?_
    refine w_v2 (d2 := 1) (L2 := 21) dX11_write_42 vX11_375 rfl (q2.1.lt (by decide)) rfl rfl (by decide) (Nat.le_of_ble_eq_true rfl) (by decide) (by decide) ?_
    refine T_shx4 (Nat.le_of_ble_eq_true rfl) f2 q2 (fun h3 f3 q3 => ?_)
    refine k_v rfl ?_
    refine w_aload_n dX11_write_45 rfl rfl ?_
    refine w_gi q3.1 dX11_write_46 fX11_363 rfl rfl (by decide) ?_
    refine w_iret dX11_write_49 (fun _ e => by cases e; rfl) ?_
    rw [dz, lw_36] at k
    simp only [List.append_assoc, List.nil_append, List.append_nil, List.cons_append] at q3 k
    rw [q3.2.1]
    exact k _ f3 q3

theorem rg_ok : ∀ j, j < 8 → (rgT (nI j)).length = 2 ∧ (rgT (nI j)).all (fun b => decide (b &&& 255 = b)) = true := by decide +kernel
theorem rg_7 (x : Int32) : (rgT (x &&& 7)).length ≤ 6 ∧ (rgT (x &&& 7)).all (fun b => decide (b &&& 255 = b)) = true := by
  obtain ⟨j, hj, e⟩ := pk_andE x (m := 7) 3 (by decide)
  rw [e]; have := rg_ok j (by omega); exact ⟨by rw [this.1]; decide, this.2⟩
theorem hd_ok (w k : Int32) : hxD w k &&& 255 = hxD w k := by
  obtain ⟨j, hj, e⟩ := pk_andE (w >>> ((4 * k) &&& 31)) (m := 15) 4 (by decide)
  unfold hxD; rw [e, nI_clamp (by omega)]; exact (hx_e j (by omega)).2
theorem opT_ok {f : Int32} (hf : f ∈ shL) (w : Int32) : (opT f w).length ≤ 6 ∧ (opT f w).all (fun b => decide (b &&& 255 = b)) = true := by
  unfold shL at hf
  simp only [List.mem_cons, List.not_mem_nil, or_false] at hf
  rcases hf with rfl | rfl | rfl | rfl | rfl | rfl | rfl | rfl
  · exact rg_7 _
  · exact rg_7 _
  · refine ⟨(by show (hx4 w).length ≤ 6; exact Nat.le_of_ble_eq_true rfl), ?_⟩
    show (hx4 w).all _ = true
    unfold hx4
    simp only [List.all_cons, List.all_nil, Bool.and_true, hd_ok, decide_true]; decide
  · exact (nv_11 w).2
  · exact (nv_6 w).2
  · show (if w &&& 32 = 0 then rgT (w &&& 7) else nvC (sgS w 5)).length ≤ 6 ∧ (if w &&& 32 = 0 then rgT (w &&& 7) else nvC (sgS w 5)).all _ = true
    split
    · exact rg_7 _
    · exact (nv_5 w).2
  · refine ⟨(by show (hx2 w).length ≤ 6; exact Nat.le_of_ble_eq_true rfl), ?_⟩
    show (hx2 w).all _ = true
    unfold hx2
    simp only [List.all_cons, List.all_nil, Bool.and_true, hd_ok, decide_true]; decide
  · exact (nv_9 w).2
theorem opL_ok (w : Int32) : ∀ (fs : List Int32) (b : Bool), (∀ f ∈ fs, f ∈ shL) → (opL w fs b).length ≤ 8 * fs.length ∧ (opL w fs b).all (fun b => decide (b &&& 255 = b)) = true
  | [], _, _ => ⟨Nat.le_refl _, rfl⟩
  | f :: fs, b, h => by
    have a := opT_ok (h f List.mem_cons_self) w
    have c := opL_ok w fs false (fun g hg => h g (List.mem_cons_of_mem _ hg))
    rw [opL]
    have s : (if b = true then ([32] : List Int32) else [44, 32]).length ≤ 2 ∧ (if b = true then ([32] : List Int32) else [44, 32]).all (fun b => decide (b &&& 255 = b)) = true := by cases b <;> decide
    refine ⟨?_, by rw [List.all_append, List.all_append, s.2, a.2, c.2]; rfl⟩
    rw [List.length_append, List.length_append, List.length_cons]
    have := s.1; have := a.1; have := c.1
    omega
theorem lw_ok {j : Nat} (hj : j < 37) (hj4 : 4 ≤ j) (w : Int32) : (lwT j w).length ≤ 32 ∧ (lwT j w).all (fun b => decide (b &&& 255 = b)) = true := by
  have t := opTx_lt j hj
  have a := opL_ok w (sB (opSh.getD j 0)) true (fun f hf => by have := List.all_eq_true.mp (sh_ok j hj hj4) f hf; simpa using this)
  unfold lwT
  refine ⟨?_, by rw [List.all_append, t.2.2, a.2]; rfl⟩
  rw [List.length_append]
  have := t.2.1; have := a.1
  omega
theorem adB_id : ∀ (l L : List Int32), L.length + l.length ≤ 32 → l.all (fun b => decide (b &&& 255 = b)) = true → adB L l = L ++ l
  | [], L, _, _ => (List.append_nil L).symm
  | b :: l, L, h, hb => by
    rw [List.length_cons] at h
    rw [List.all_cons, Bool.and_eq_true, decide_eq_true_eq] at hb
    show adB (addB 32 L b) l = _
    rw [addB_lt (by omega), hb.1, adB_id l (L ++ [b]) (by rw [List.length_append]; simp only [List.length_cons, List.length_nil]; omega) hb.2, List.append_assoc]; rfl
theorem fN_lt (n : Nat) : ∀ (l : List (Nat × Nat)) (i : Nat), i + l.length ≤ 37 → fN n l i < 37
  | [], _, _ => by show 36 < 37; decide
  | p :: l, i, h => by
    rw [List.length_cons] at h
    rw [fN]
    cases Nat.beq (Nat.land n p.1) p.2
    · exact fN_lt n l (i + 1) (by omega)
    · show i < 37; omega
/-- the LINE of a word: the same on both sides -/
theorem lw_same {n : Nat} (hn : n < 65536) : adB [] (lwT (fN n mkB 0) (nI n)) = lwT (dN n) (nI n) ∧ (lwT (dN n) (nI n)).length ≤ 32 := by
  have h := lw_ok (fN_lt n mkB 0 (by decide)) (fN_4 n) (nI n)
  rw [adB_id _ _ (by rw [List.length_nil]; omega) h.2, List.nil_append, ← fd_e hn]
  exact ⟨rfl, h.1⟩
