/-! THE CLASS: the machine's loops, trap, perform, step, go -/
def pw1 (σ : MS) (w pk : Int32) : MS := if pk = 0 then sP σ w else if w >>> ((8 : Int32) &&& 31) = 0 then sP σ w else sP (sP σ w) (w >>> ((8 : Int32) &&& 31))
def pwS : Nat → MS → Int32 → Nat → MS
  | 0, σ, _, _ => σ
  | m + 1, σ, pk, n => if lookS σ ((σ.1 0 + nI n) &&& 65535) = 0 then σ else pwS m (pw1 σ (lookS σ ((σ.1 0 + nI n) &&& 65535)) pk) pk (n + 1)
set_option maxRecDepth 20000 in
set_option maxHeartbeats 4000000 in
theorem L_pw {X : Nat × (Nat → Int32)} {h0 : PH} {Q : Option Value → PH → Prop} {pk : Int32} : ∀ (m n : Nat) (h : PH) (σ : MS) (t : Option Value), n + m = 4096 → Fm h0 h → RC h σ → (∀ h', Fm h0 h' → RC h' (pwS m σ pk n) → Q none h') → WP X mX3_printWords 2 43 2 [some (.ref 13), some (.int pk), some (.int (nI n)), t] [] h Q := by
  intro m
  induction m with
  | zero =>
    intro n h σ t hn f q k
    obtain rfl : n = 4096 := by omega
    refine w_iload_n dX3_printWords_2 rfl rfl ?_
    refine w_sipush dX3_printWords_3 (v := 4096) (by decide) ?_
    refine w_icmp_ge (tgt := 66) dX3_printWords_6 (by decide) (fun c_6 => ?_) (fun c_6 => absurd c_6 (not_not_intro (show (4096 : Int32) ≤ nI 4096 from by decide)))
    refine w_vret dX3_printWords_66 ?_
    exact k _ f q
  | succ m ih =>
    intro n h σ t hn f q k
    refine w_iload_n dX3_printWords_2 rfl rfl ?_
    refine w_sipush dX3_printWords_3 (v := 4096) (by decide) ?_
    refine w_icmp_ge (tgt := 66) dX3_printWords_6 (by decide) (fun c_6 => absurd c_6 (show ¬ (4096 : Int32) ≤ nI n from by rw [show (4096 : Int32) = nI 4096 from rfl, nI_leI (by decide) (by omega)]; omega)) (fun c_6 => ?_)
    refine w_aload_n dX3_printWords_9 rfl rfl ?_
    refine w_aload_n dX3_printWords_10 rfl rfl ?_
    refine w_gs (b := 14) q.1 dX3_printWords_11 fX3_9 (by decide) rfl rfl (by decide) ?_
    refine w_iconst dX3_printWords_14 (v := 0) (by decide) ?_
    refine r_get (k := 0) q dX3_printWords_15 (by decide) (vin (by decide)) ?_
    refine w_iload_n dX3_printWords_16 rfl rfl ?_
    refine w_iadd dX3_printWords_17 ?_
    refine w_ldc dX3_printWords_18 kX3_66 ?_
    refine w_iand dX3_printWords_20 ?_
    refine w_v1 (d2 := 1) (L2 := 22) dX3_printWords_21 vX3_144 rfl (q.1.lt (by decide)) rfl (by decide) (Nat.le_of_ble_eq_true rfl) (by decide) (by decide) ?_
    refine T_look q ?_
    refine k_i rfl ?_
    refine w_istore_n dX3_printWords_24 rfl (by decide) ?_
    refine w_iload_n dX3_printWords_25 rfl rfl ?_
    refine w_if_ne (tgt := 30) dX3_printWords_26 (by decide) (fun c_26 => ?_) (fun c_26 => ?_)
    · refine w_aload_n dX3_printWords_30 rfl rfl ?_
      refine w_gs (b := 20) q.1 dX3_printWords_31 fX3_35 (by decide) rfl rfl (by decide) ?_
      refine w_iload_n dX3_printWords_34 rfl rfl ?_
      refine w_v1 (d2 := 0) (L2 := 0) dX3_printWords_35 vX3_130 rfl (q.1.lt (by decide)) rfl (by decide) (Nat.le_of_ble_eq_true rfl) (by decide) (by decide) ?_
      refine T_padd2 f q (fun h1 f1 q1 => ?_)
      refine k_v rfl ?_
      refine w_iload_n dX3_printWords_38 rfl rfl ?_
      refine w_if_eq (tgt := 60) dX3_printWords_39 (by decide) (fun c_39 => ?_) (fun c_39 => ?_)
      · refine w_iinc (v := nI (n + 1)) dX3_printWords_60 rfl (nI_1 n) (by decide) ?_
        refine w_goto (tgt := 2) dX3_printWords_63 (by decide) ?_
        exact ih (n + 1) _ _ _ (by omega) f1 q1 (fun h' g r => k h' g (by rw [pwS, if_neg c_26, pw1, if_pos c_39]; exact r))
      · refine w_iload_n dX3_printWords_42 rfl rfl ?_
        refine w_bipush dX3_printWords_43 (v := 8) (by decide) ?_
        refine w_ishr dX3_printWords_45 ?_
        refine w_if_eq (tgt := 60) dX3_printWords_46 (by decide) (fun c_46 => ?_) (fun c_46 => ?_)
        · refine w_iinc (v := nI (n + 1)) dX3_printWords_60 rfl (nI_1 n) (by decide) ?_
          refine w_goto (tgt := 2) dX3_printWords_63 (by decide) ?_
          exact ih (n + 1) _ _ _ (by omega) f1 q1 (fun h' g r => k h' g (by rw [pwS, if_neg c_26, pw1, if_neg c_39, if_pos c_46]; exact r))
        · refine w_aload_n dX3_printWords_49 rfl rfl ?_
          refine w_gs (b := 20) q1.1 dX3_printWords_50 fX3_35 (by decide) rfl rfl (by decide) ?_
          refine w_iload_n dX3_printWords_53 rfl rfl ?_
          refine w_bipush dX3_printWords_54 (v := 8) (by decide) ?_
          refine w_ishr dX3_printWords_56 ?_
          refine w_v1 (d2 := 0) (L2 := 0) dX3_printWords_57 vX3_130 rfl (q1.1.lt (by decide)) rfl (by decide) (Nat.le_of_ble_eq_true rfl) (by decide) (by decide) ?_
          refine T_padd2 f1 q1 (fun h2 f2 q2 => ?_)
          refine k_v rfl ?_
          refine w_iinc (v := nI (n + 1)) dX3_printWords_60 rfl (nI_1 n) (by decide) ?_
          refine w_goto (tgt := 2) dX3_printWords_63 (by decide) ?_
          exact ih (n + 1) _ _ _ (by omega) f2 q2 (fun h' g r => k h' g (by rw [pwS, if_neg c_26, pw1, if_neg c_39, if_neg c_46]; exact r))
    · refine w_vret dX3_printWords_29 ?_
      exact k _ f (by rw [pwS, if_pos c_26]; exact q)

set_option maxRecDepth 20000 in
set_option maxHeartbeats 4000000 in
/-- printWords(packed) -/
theorem T_pw {X : Nat × (Nat → Int32)} {h0 h : PH} {σ : MS} {Q : Option Value → PH → Prop} {pk : Int32} (f : Fm h0 h) (q : RC h σ) (k : ∀ h', Fm h0 h' → RC h' (pwS 4096 σ pk 0) → Q none h') : WP X mX3_printWords 2 43 0 (en 4 [.ref 13, .int pk]) [] h Q := by
  refine w_iconst dX3_printWords_0 (v := 0) (by decide) ?_
  refine w_istore_n dX3_printWords_1 rfl (by decide) ?_
  exact L_pw 4096 0 _ _ _ rfl f q k

noncomputable def trpS (σ : MS) (v : Int32) : MS := if σ.2.1 (ix v) = 0 then (if v = 32 then tkS σ 0 else if v = 33 then sP σ (σ.1 0) else if v = 34 then pwS 4096 σ 0 0 else if v = 35 then tkS σ 1 else if v = 36 then pwS 4096 σ 1 0 else if v = 37 then sG σ 12 1 else sG σ 20 1) else entS (sG σ 19 (σ.1 19 + 1)) v
set_option maxRecDepth 20000 in
set_option maxHeartbeats 4000000 in
/-- trap(v) -/
theorem T_trap {X : Nat × (Nat → Int32)} {h0 h : PH} {σ : MS} {Q : Option Value → PH → Prop} {v : Int32} (f : Fm h0 h) (q : RC h σ) (k : ∀ h', Fm h0 h' → RC h' (trpS σ v) → Q none h') : WP X mX3_trap 3 67 0 (en 2 [.ref 13, .int v]) [] h Q := by
  refine w_aload_n dX3_trap_0 rfl rfl ?_
  refine w_gs (b := 16) q.1 dX3_trap_1 fX3_21 (by decide) rfl rfl (by decide) ?_
  refine w_iload_n dX3_trap_4 rfl rfl ?_
  refine w_v1 (d2 := 0) (L2 := 0) dX3_trap_5 vX3_123 rfl (q.1.lt (by decide)) rfl (by decide) (Nat.le_of_ble_eq_true rfl) (by decide) (by decide) ?_
  refine T_mat q ?_
  refine k_i rfl ?_
  refine w_if_eq (tgt := 27) dX3_trap_8 (by decide) (fun c_8 => ?_) (fun c_8 => ?_)
  · refine w_iload_n dX3_trap_27 rfl rfl ?_
    by_cases s_32 : v = 32
    · refine w_tbE (off := 40) (tgt := 68) s_32 dX3_trap_28 (by decide) (by decide) (by decide) (by decide) ?_
      refine w_aload_n dX3_trap_68 rfl rfl ?_
      refine w_iload_n dX3_trap_69 rfl rfl ?_
      refine w_bipush dX3_trap_70 (v := 35) (by decide) ?_
      refine w_icmp_ne (tgt := 79) dX3_trap_72 (by decide) (fun c_72 => ?_) (fun c_72 => absurd c_72 (by rw [s_32]; decide))
      refine w_iconst dX3_trap_79 (v := 0) (by decide) ?_
      refine w_v1 (d2 := 1) (L2 := 21) dX3_trap_80 vX3_126 rfl (q.1.lt (by decide)) rfl (by decide) (Nat.le_of_ble_eq_true rfl) (by decide) (by decide) ?_
      refine T_takeKey f q (fun h1 f1 q1 => ?_)
      refine k_v rfl ?_
      refine w_goto (tgt := 133) dX3_trap_83 (by decide) ?_
      refine w_vret dX3_trap_133 ?_
      rw [trpS, if_pos c_8, if_pos s_32] at k; exact k _ f1 q1
    by_cases s_33 : v = 33
    · refine w_tbE (off := 58) (tgt := 86) s_33 dX3_trap_28 (by decide) (by decide) (by decide) (by decide) ?_
      refine w_aload_n dX3_trap_86 rfl rfl ?_
      refine w_gs (b := 20) q.1 dX3_trap_87 fX3_35 (by decide) rfl rfl (by decide) ?_
      refine w_aload_n dX3_trap_90 rfl rfl ?_
      refine w_gs (b := 14) q.1 dX3_trap_91 fX3_9 (by decide) rfl rfl (by decide) ?_
      refine w_iconst dX3_trap_94 (v := 0) (by decide) ?_
      refine r_get (k := 0) q dX3_trap_95 (by decide) (vin (by decide)) ?_
      refine w_v1 (d2 := 0) (L2 := 0) dX3_trap_96 vX3_130 rfl (q.1.lt (by decide)) rfl (by decide) (Nat.le_of_ble_eq_true rfl) (by decide) (by decide) ?_
      refine T_padd2 f q (fun h2 f2 q2 => ?_)
      refine k_v rfl ?_
      refine w_goto (tgt := 133) dX3_trap_99 (by decide) ?_
      refine w_vret dX3_trap_133 ?_
      rw [trpS, if_pos c_8, if_neg s_32, if_pos s_33] at k; exact k _ f2 q2
    by_cases s_34 : v = 34
    · refine w_tbE (off := 74) (tgt := 102) s_34 dX3_trap_28 (by decide) (by decide) (by decide) (by decide) ?_
      refine w_aload_n dX3_trap_102 rfl rfl ?_
      refine w_iload_n dX3_trap_103 rfl rfl ?_
      refine w_bipush dX3_trap_104 (v := 36) (by decide) ?_
      refine w_icmp_ne (tgt := 113) dX3_trap_106 (by decide) (fun c_106 => ?_) (fun c_106 => absurd c_106 (by rw [s_34]; decide))
      refine w_iconst dX3_trap_113 (v := 0) (by decide) ?_
      refine w_v1 (d2 := 2) (L2 := 43) dX3_trap_114 vX3_132 rfl (q.1.lt (by decide)) rfl (by decide) (Nat.le_of_ble_eq_true rfl) (by decide) (by decide) ?_
      refine T_pw f q (fun h3 f3 q3 => ?_)
      refine k_v rfl ?_
      refine w_goto (tgt := 133) dX3_trap_117 (by decide) ?_
      refine w_vret dX3_trap_133 ?_
      rw [trpS, if_pos c_8, if_neg s_32, if_neg s_33, if_pos s_34] at k; exact k _ f3 q3
    by_cases s_35 : v = 35
    · refine w_tbE (off := 40) (tgt := 68) s_35 dX3_trap_28 (by decide) (by decide) (by decide) (by decide) ?_
      refine w_aload_n dX3_trap_68 rfl rfl ?_
      refine w_iload_n dX3_trap_69 rfl rfl ?_
      refine w_bipush dX3_trap_70 (v := 35) (by decide) ?_
      refine w_icmp_ne (tgt := 79) dX3_trap_72 (by decide) (fun c_72 => absurd c_72 (not_not_intro s_35)) (fun c_72 => ?_)
      refine w_iconst dX3_trap_75 (v := 1) (by decide) ?_
      refine w_goto (tgt := 80) dX3_trap_76 (by decide) ?_
      refine w_v1 (d2 := 1) (L2 := 21) dX3_trap_80 vX3_126 rfl (q.1.lt (by decide)) rfl (by decide) (Nat.le_of_ble_eq_true rfl) (by decide) (by decide) ?_
      refine T_takeKey f q (fun h4 f4 q4 => ?_)
      refine k_v rfl ?_
      refine w_goto (tgt := 133) dX3_trap_83 (by decide) ?_
      refine w_vret dX3_trap_133 ?_
      rw [trpS, if_pos c_8, if_neg s_32, if_neg s_33, if_neg s_34, if_pos s_35] at k; exact k _ f4 q4
    by_cases s_36 : v = 36
    · refine w_tbE (off := 74) (tgt := 102) s_36 dX3_trap_28 (by decide) (by decide) (by decide) (by decide) ?_
      refine w_aload_n dX3_trap_102 rfl rfl ?_
      refine w_iload_n dX3_trap_103 rfl rfl ?_
      refine w_bipush dX3_trap_104 (v := 36) (by decide) ?_
      refine w_icmp_ne (tgt := 113) dX3_trap_106 (by decide) (fun c_106 => absurd c_106 (not_not_intro s_36)) (fun c_106 => ?_)
      refine w_iconst dX3_trap_109 (v := 1) (by decide) ?_
      refine w_goto (tgt := 114) dX3_trap_110 (by decide) ?_
      refine w_v1 (d2 := 2) (L2 := 43) dX3_trap_114 vX3_132 rfl (q.1.lt (by decide)) rfl (by decide) (Nat.le_of_ble_eq_true rfl) (by decide) (by decide) ?_
      refine T_pw f q (fun h5 f5 q5 => ?_)
      refine k_v rfl ?_
      refine w_goto (tgt := 133) dX3_trap_117 (by decide) ?_
      refine w_vret dX3_trap_133 ?_
      rw [trpS, if_pos c_8, if_neg s_32, if_neg s_33, if_neg s_34, if_neg s_35, if_pos s_36] at k; exact k _ f5 q5
    by_cases s_37 : v = 37
    · refine w_tbE (off := 92) (tgt := 120) s_37 dX3_trap_28 (by decide) (by decide) (by decide) (by decide) ?_
      refine w_aload_n dX3_trap_120 rfl rfl ?_
      refine w_iconst dX3_trap_121 (v := 1) (by decide) ?_
      refine x_put f q dX3_trap_122 fX3_39 (RC.state q) rfl rfl (by decide) (fun h6 f6 q6 => ?_)
      refine w_goto (tgt := 133) dX3_trap_125 (by decide) ?_
      refine w_vret dX3_trap_133 ?_
      rw [trpS, if_pos c_8, if_neg s_32, if_neg s_33, if_neg s_34, if_neg s_35, if_neg s_36, if_pos s_37] at k; exact k _ f6 q6
    refine w_tableOut (tgt := 128) dX3_trap_28 (by have t_32 := ne_toInt s_32 (n := 32) (by decide); have t_33 := ne_toInt s_33 (n := 33) (by decide); have t_34 := ne_toInt s_34 (n := 34) (by decide); have t_35 := ne_toInt s_35 (n := 35) (by decide); have t_36 := ne_toInt s_36 (n := 36) (by decide); have t_37 := ne_toInt s_37 (n := 37) (by decide); omega) (by decide) ?_
    refine w_aload_n dX3_trap_128 rfl rfl ?_
    refine w_iconst dX3_trap_129 (v := 1) (by decide) ?_
    refine x_put f q dX3_trap_130 fX3_43 (RC.raise q) rfl rfl (by decide) (fun h7 f7 q7 => ?_)
    refine w_vret dX3_trap_133 ?_
    rw [trpS, if_pos c_8, if_neg s_32, if_neg s_33, if_neg s_34, if_neg s_35, if_neg s_36, if_neg s_37] at k; exact k _ f7 q7
  · refine w_aload_n dX3_trap_11 rfl rfl ?_
    refine w_gs (b := 15) q.1 dX3_trap_12 fX3_15 (by decide) rfl rfl (by decide) ?_
    refine w_iconst dX3_trap_15 (v := 3) (by decide) ?_
    refine w_dup2 dX3_trap_16 rfl rfl ?_
    refine c_get (k := 3) q dX3_trap_17 (by decide) (vin (by decide)) ?_
    refine w_iconst dX3_trap_18 (v := 1) (by decide) ?_
    refine w_iadd dX3_trap_19 ?_
    refine c_put (k := 3) f q dX3_trap_20 (by decide) (vin (by decide)) (fun h8 f8 q8 => ?_)
    refine w_aload_n dX3_trap_21 rfl rfl ?_
    refine w_iload_n dX3_trap_22 rfl rfl ?_
    refine w_v1 (d2 := 2) (L2 := 45) dX3_trap_23 vX3_82 rfl (q8.1.lt (by decide)) rfl (by decide) (Nat.le_of_ble_eq_true rfl) (by decide) (by decide) ?_
    refine T_enter f8 q8 (fun h9 f9 q9 => ?_)
    refine k_v rfl ?_
    refine w_vret dX3_trap_26 ?_
    rw [trpS, if_neg c_8] at k; exact k _ f9 q9

def drS (w : Int32) : Int32 := w >>> ((9 : Int32) &&& 31) &&& 7
def raS (σ : MS) (w : Int32) : Int32 := σ.1 (w >>> ((6 : Int32) &&& 31) &&& 7).toNatClampNeg
def neS (σ : MS) (w : Int32) : Int32 := σ.1 8 + sgS w 9 &&& 65535
def ofS (σ : MS) (w : Int32) : Int32 := raS σ w + sgS w 6 &&& 65535
noncomputable def perS (σ : MS) (w : Int32) : MS :=
  if w >>> ((12 : Int32) &&& 31) = 0 then (if drS w &&& σ.1 9 = 0 then σ else sG σ 8 (neS σ w))
  else if w >>> ((12 : Int32) &&& 31) = 1 then setS σ (drS w) (raS σ w + secS σ w)
  else if w >>> ((12 : Int32) &&& 31) = 2 then recS σ (drS w) (neS σ w)
  else if w >>> ((12 : Int32) &&& 31) = 3 then givS σ (neS σ w) (σ.1 (drS w).toNatClampNeg)
  else if w >>> ((12 : Int32) &&& 31) = 4 then calS σ w (raS σ w)
  else if w >>> ((12 : Int32) &&& 31) = 5 then setS σ (drS w) (raS σ w &&& secS σ w)
  else if w >>> ((12 : Int32) &&& 31) = 6 then recS σ (drS w) (ofS σ w)
  else if w >>> ((12 : Int32) &&& 31) = 7 then givS σ (ofS σ w) (σ.1 (drS w).toNatClampNeg)
  else if w >>> ((12 : Int32) &&& 31) = 8 then comS σ
  else if w >>> ((12 : Int32) &&& 31) = 9 then setS σ (drS w) (raS σ w ^^^ (-1))
  else if w >>> ((12 : Int32) &&& 31) = 10 then recS (fetS σ (neS σ w)) (drS w) (fetV σ (neS σ w))
  else if w >>> ((12 : Int32) &&& 31) = 11 then givS (fetS σ (neS σ w)) (fetV σ (neS σ w)) ((fetS σ (neS σ w)).1 (drS w).toNatClampNeg)
  else if w >>> ((12 : Int32) &&& 31) = 12 then sG σ 8 (raS σ w)
  else if w >>> ((12 : Int32) &&& 31) = 13 then sG σ 20 1
  else if w >>> ((12 : Int32) &&& 31) = 14 then sG σ (drS w).toNatClampNeg (neS σ w)
  else trpS σ (w &&& 255)
set_option maxRecDepth 20000 in
set_option maxHeartbeats 4000000 in
/-- perform(word) -/
theorem T_perform {X : Nat × (Nat → Int32)} {h0 h : PH} {σ : MS} {Q : Option Value → PH → Prop} {w : Int32} (f : Fm h0 h) (q : RC h σ) (k : ∀ h', Fm h0 h' → RC h' (perS σ w) → Q none h') : WP X mX3_perform 4 88 0 (en 6 [.ref 13, .int w]) [] h Q := by
  refine w_iload_n dX3_perform_0 rfl rfl ?_
  refine w_bipush dX3_perform_1 (v := 9) (by decide) ?_
  refine w_ishr dX3_perform_3 ?_
  refine w_bipush dX3_perform_4 (v := 7) (by decide) ?_
  refine w_iand dX3_perform_6 ?_
  refine w_istore_n dX3_perform_7 rfl (by decide) ?_
  refine w_aload_n dX3_perform_8 rfl rfl ?_
  refine w_gs (b := 14) q.1 dX3_perform_9 fX3_9 (by decide) rfl rfl (by decide) ?_
  refine w_iload_n dX3_perform_12 rfl rfl ?_
  refine w_bipush dX3_perform_13 (v := 6) (by decide) ?_
  refine w_ishr dX3_perform_15 ?_
  refine w_bipush dX3_perform_16 (v := 7) (by decide) ?_
  refine w_iand dX3_perform_18 ?_
  refine r_get q dX3_perform_19 rfl (in7 _) ?_
  refine w_istore_n dX3_perform_20 rfl (by decide) ?_
  refine w_aload_n dX3_perform_21 rfl rfl ?_
  refine w_gs (b := 14) q.1 dX3_perform_22 fX3_9 (by decide) rfl rfl (by decide) ?_
  refine w_bipush dX3_perform_25 (v := 8) (by decide) ?_
  refine r_get (k := 8) q dX3_perform_27 (by decide) (vin (by decide)) ?_
  refine w_iload_n dX3_perform_28 rfl rfl ?_
  refine w_bipush dX3_perform_29 (v := 9) (by decide) ?_
  refine w_s2 (d2 := 0) (L2 := 0) dX3_perform_31 vX3_93 rfl rfl (by decide) (Nat.le_of_ble_eq_true rfl) (by decide) (by decide) ?_
  refine T_sg ?_
  refine k_i rfl ?_
  refine w_iadd dX3_perform_34 ?_
  refine w_ldc dX3_perform_35 kX3_66 ?_
  refine w_iand dX3_perform_37 ?_
  refine w_istore dX3_perform_38 (by decide) ?_
  refine w_iload_n dX3_perform_40 rfl rfl ?_
  refine w_iload_n dX3_perform_41 rfl rfl ?_
  refine w_bipush dX3_perform_42 (v := 6) (by decide) ?_
  refine w_s2 (d2 := 0) (L2 := 0) dX3_perform_44 vX3_93 rfl rfl (by decide) (Nat.le_of_ble_eq_true rfl) (by decide) (by decide) ?_
  refine T_sg ?_
  refine k_i rfl ?_
  refine w_iadd dX3_perform_47 ?_
  refine w_ldc dX3_perform_48 kX3_66 ?_
  refine w_iand dX3_perform_50 ?_
  refine w_istore dX3_perform_51 (by decide) ?_
  refine w_iload_n dX3_perform_53 rfl rfl ?_
  refine w_bipush dX3_perform_54 (v := 12) (by decide) ?_
  refine w_ishr dX3_perform_56 ?_
  by_cases s_0 : w >>> ((12 : Int32) &&& 31) = 0
  · refine w_tbE (off := 75) (tgt := 132) s_0 dX3_perform_57 (by decide) (by decide) (by decide) (by decide) ?_
    refine w_iload_n dX3_perform_132 rfl rfl ?_
    refine w_aload_n dX3_perform_133 rfl rfl ?_
    refine w_gs (b := 14) q.1 dX3_perform_134 fX3_9 (by decide) rfl rfl (by decide) ?_
    refine w_bipush dX3_perform_137 (v := 9) (by decide) ?_
    refine r_get (k := 9) q dX3_perform_139 (by decide) (vin (by decide)) ?_
    refine w_iand dX3_perform_140 ?_
    refine w_if_eq (tgt := 335) dX3_perform_141 (by decide) (fun c_141 => ?_) (fun c_141 => ?_)
    · refine w_vret dX3_perform_335 ?_
      rw [perS, if_pos s_0, if_pos (show drS w &&& σ.1 9 = 0 from c_141)] at k; exact k _ f q
    · refine w_aload_n dX3_perform_144 rfl rfl ?_
      refine w_gs (b := 14) q.1 dX3_perform_145 fX3_9 (by decide) rfl rfl (by decide) ?_
      refine w_bipush dX3_perform_148 (v := 8) (by decide) ?_
      refine w_iload dX3_perform_150 rfl ?_
      refine r_put (k := 8) f q dX3_perform_152 (by decide) (vin (by decide)) (fun h1 f1 q1 => ?_)
      refine w_goto (tgt := 335) dX3_perform_153 (by decide) ?_
      refine w_vret dX3_perform_335 ?_
      rw [perS, if_pos s_0, if_neg (show ¬ drS w &&& σ.1 9 = 0 from c_141)] at k; exact k _ f1 q1
  by_cases s_1 : w >>> ((12 : Int32) &&& 31) = 1
  · refine w_tbE (off := 99) (tgt := 156) s_1 dX3_perform_57 (by decide) (by decide) (by decide) (by decide) ?_
    refine w_aload_n dX3_perform_156 rfl rfl ?_
    refine w_iload_n dX3_perform_157 rfl rfl ?_
    refine w_iload_n dX3_perform_158 rfl rfl ?_
    refine w_aload_n dX3_perform_159 rfl rfl ?_
    refine w_iload_n dX3_perform_160 rfl rfl ?_
    refine w_v1 (d2 := 1) (L2 := 22) dX3_perform_161 vX3_97 rfl (q.1.lt (by decide)) rfl (by decide) (Nat.le_of_ble_eq_true rfl) (by decide) (by decide) ?_
    refine T_second q ?_
    refine k_i rfl ?_
    refine w_iadd dX3_perform_164 ?_
    refine w_v2 (d2 := 0) (L2 := 0) dX3_perform_165 vX3_100 rfl (q.1.lt (by decide)) rfl rfl (by decide) (Nat.le_of_ble_eq_true rfl) (by decide) (by decide) ?_
    refine T_settle (in7 _) f q (fun h2 f2 q2 => ?_)
    refine k_v rfl ?_
    refine w_goto (tgt := 335) dX3_perform_168 (by decide) ?_
    refine w_vret dX3_perform_335 ?_
    rw [perS, if_neg s_0, if_pos s_1] at k; exact k _ f2 q2
  by_cases s_2 : w >>> ((12 : Int32) &&& 31) = 2
  · refine w_tbE (off := 114) (tgt := 171) s_2 dX3_perform_57 (by decide) (by decide) (by decide) (by decide) ?_
    refine w_aload_n dX3_perform_171 rfl rfl ?_
    refine w_iload_n dX3_perform_172 rfl rfl ?_
    refine w_iload dX3_perform_173 rfl ?_
    refine w_v2 (d2 := 3) (L2 := 65) dX3_perform_175 vX3_103 rfl (q.1.lt (by decide)) rfl rfl (by decide) (Nat.le_of_ble_eq_true rfl) (by decide) (by decide) ?_
    refine T_receive (in7 _) f q (fun h3 f3 q3 => ?_)
    refine k_v rfl ?_
    refine w_goto (tgt := 335) dX3_perform_178 (by decide) ?_
    refine w_vret dX3_perform_335 ?_
    rw [perS, if_neg s_0, if_neg s_1, if_pos s_2] at k; exact k _ f3 q3
  by_cases s_3 : w >>> ((12 : Int32) &&& 31) = 3
  · refine w_tbE (off := 124) (tgt := 181) s_3 dX3_perform_57 (by decide) (by decide) (by decide) (by decide) ?_
    refine w_aload_n dX3_perform_181 rfl rfl ?_
    refine w_iload dX3_perform_182 rfl ?_
    refine w_aload_n dX3_perform_184 rfl rfl ?_
    refine w_gs (b := 14) q.1 dX3_perform_185 fX3_9 (by decide) rfl rfl (by decide) ?_
    refine w_iload_n dX3_perform_188 rfl rfl ?_
    refine r_get q dX3_perform_189 rfl (in7 _) ?_
    refine w_v2 (d2 := 2) (L2 := 45) dX3_perform_190 vX3_106 rfl (q.1.lt (by decide)) rfl rfl (by decide) (Nat.le_of_ble_eq_true rfl) (by decide) (by decide) ?_
    refine T_give f q (fun h4 f4 q4 => ?_)
    refine k_v rfl ?_
    refine w_goto (tgt := 335) dX3_perform_193 (by decide) ?_
    refine w_vret dX3_perform_335 ?_
    rw [perS, if_neg s_0, if_neg s_1, if_neg s_2, if_pos s_3] at k; exact k _ f4 q4
  by_cases s_4 : w >>> ((12 : Int32) &&& 31) = 4
  · refine w_tbE (off := 139) (tgt := 196) s_4 dX3_perform_57 (by decide) (by decide) (by decide) (by decide) ?_
    refine w_aload_n dX3_perform_196 rfl rfl ?_
    refine w_iload_n dX3_perform_197 rfl rfl ?_
    refine w_iload_n dX3_perform_198 rfl rfl ?_
    refine w_v2 (d2 := 1) (L2 := 22) dX3_perform_199 vX3_109 rfl (q.1.lt (by decide)) rfl rfl (by decide) (Nat.le_of_ble_eq_true rfl) (by decide) (by decide) ?_
    refine T_callAway f q (fun h5 f5 q5 => ?_)
    refine k_v rfl ?_
    refine w_goto (tgt := 335) dX3_perform_202 (by decide) ?_
    refine w_vret dX3_perform_335 ?_
    rw [perS, if_neg s_0, if_neg s_1, if_neg s_2, if_neg s_3, if_pos s_4] at k; exact k _ f5 q5
  by_cases s_5 : w >>> ((12 : Int32) &&& 31) = 5
  · refine w_tbE (off := 148) (tgt := 205) s_5 dX3_perform_57 (by decide) (by decide) (by decide) (by decide) ?_
    refine w_aload_n dX3_perform_205 rfl rfl ?_
    refine w_iload_n dX3_perform_206 rfl rfl ?_
    refine w_iload_n dX3_perform_207 rfl rfl ?_
    refine w_aload_n dX3_perform_208 rfl rfl ?_
    refine w_iload_n dX3_perform_209 rfl rfl ?_
    refine w_v1 (d2 := 1) (L2 := 22) dX3_perform_210 vX3_97 rfl (q.1.lt (by decide)) rfl (by decide) (Nat.le_of_ble_eq_true rfl) (by decide) (by decide) ?_
    refine T_second q ?_
    refine k_i rfl ?_
    refine w_iand dX3_perform_213 ?_
    refine w_v2 (d2 := 0) (L2 := 0) dX3_perform_214 vX3_100 rfl (q.1.lt (by decide)) rfl rfl (by decide) (Nat.le_of_ble_eq_true rfl) (by decide) (by decide) ?_
    refine T_settle (in7 _) f q (fun h6 f6 q6 => ?_)
    refine k_v rfl ?_
    refine w_goto (tgt := 335) dX3_perform_217 (by decide) ?_
    refine w_vret dX3_perform_335 ?_
    rw [perS, if_neg s_0, if_neg s_1, if_neg s_2, if_neg s_3, if_neg s_4, if_pos s_5] at k; exact k _ f6 q6
  by_cases s_6 : w >>> ((12 : Int32) &&& 31) = 6
  · refine w_tbE (off := 163) (tgt := 220) s_6 dX3_perform_57 (by decide) (by decide) (by decide) (by decide) ?_
    refine w_aload_n dX3_perform_220 rfl rfl ?_
    refine w_iload_n dX3_perform_221 rfl rfl ?_
    refine w_iload dX3_perform_222 rfl ?_
    refine w_v2 (d2 := 3) (L2 := 65) dX3_perform_224 vX3_103 rfl (q.1.lt (by decide)) rfl rfl (by decide) (Nat.le_of_ble_eq_true rfl) (by decide) (by decide) ?_
    refine T_receive (in7 _) f q (fun h7 f7 q7 => ?_)
    refine k_v rfl ?_
    refine w_goto (tgt := 335) dX3_perform_227 (by decide) ?_
    refine w_vret dX3_perform_335 ?_
    rw [perS, if_neg s_0, if_neg s_1, if_neg s_2, if_neg s_3, if_neg s_4, if_neg s_5, if_pos s_6] at k; exact k _ f7 q7
  by_cases s_7 : w >>> ((12 : Int32) &&& 31) = 7
  · refine w_tbE (off := 173) (tgt := 230) s_7 dX3_perform_57 (by decide) (by decide) (by decide) (by decide) ?_
    refine w_aload_n dX3_perform_230 rfl rfl ?_
    refine w_iload dX3_perform_231 rfl ?_
    refine w_aload_n dX3_perform_233 rfl rfl ?_
    refine w_gs (b := 14) q.1 dX3_perform_234 fX3_9 (by decide) rfl rfl (by decide) ?_
    refine w_iload_n dX3_perform_237 rfl rfl ?_
    refine r_get q dX3_perform_238 rfl (in7 _) ?_
    refine w_v2 (d2 := 2) (L2 := 45) dX3_perform_239 vX3_106 rfl (q.1.lt (by decide)) rfl rfl (by decide) (Nat.le_of_ble_eq_true rfl) (by decide) (by decide) ?_
    refine T_give f q (fun h8 f8 q8 => ?_)
    refine k_v rfl ?_
    refine w_goto (tgt := 335) dX3_perform_242 (by decide) ?_
    refine w_vret dX3_perform_335 ?_
    rw [perS, if_neg s_0, if_neg s_1, if_neg s_2, if_neg s_3, if_neg s_4, if_neg s_5, if_neg s_6, if_pos s_7] at k; exact k _ f8 q8
  by_cases s_8 : w >>> ((12 : Int32) &&& 31) = 8
  · refine w_tbE (off := 188) (tgt := 245) s_8 dX3_perform_57 (by decide) (by decide) (by decide) (by decide) ?_
    refine w_aload_n dX3_perform_245 rfl rfl ?_
    refine w_v0 (d2 := 3) (L2 := 65) dX3_perform_246 vX3_112 rfl (q.1.lt (by decide)) (by decide) (Nat.le_of_ble_eq_true rfl) (by decide) (by decide) ?_
    refine T_comeBack f q (fun h9 f9 q9 => ?_)
    refine k_v rfl ?_
    refine w_goto (tgt := 335) dX3_perform_249 (by decide) ?_
    refine w_vret dX3_perform_335 ?_
    rw [perS, if_neg s_0, if_neg s_1, if_neg s_2, if_neg s_3, if_neg s_4, if_neg s_5, if_neg s_6, if_neg s_7, if_pos s_8] at k; exact k _ f9 q9
  by_cases s_9 : w >>> ((12 : Int32) &&& 31) = 9
  · refine w_tbE (off := 195) (tgt := 252) s_9 dX3_perform_57 (by decide) (by decide) (by decide) (by decide) ?_
    refine w_aload_n dX3_perform_252 rfl rfl ?_
    refine w_iload_n dX3_perform_253 rfl rfl ?_
    refine w_iload_n dX3_perform_254 rfl rfl ?_
    refine w_iconst dX3_perform_255 (v := (-1)) (by decide) ?_
    refine w_ixor dX3_perform_256 ?_
    refine w_v2 (d2 := 0) (L2 := 0) dX3_perform_257 vX3_100 rfl (q.1.lt (by decide)) rfl rfl (by decide) (Nat.le_of_ble_eq_true rfl) (by decide) (by decide) ?_
    refine T_settle (in7 _) f q (fun h10 f10 q10 => ?_)
    refine k_v rfl ?_
    refine w_goto (tgt := 335) dX3_perform_260 (by decide) ?_
    refine w_vret dX3_perform_335 ?_
    rw [perS, if_neg s_0, if_neg s_1, if_neg s_2, if_neg s_3, if_neg s_4, if_neg s_5, if_neg s_6, if_neg s_7, if_neg s_8, if_pos s_9] at k; exact k _ f10 q10
  by_cases s_10 : w >>> ((12 : Int32) &&& 31) = 10
  · refine w_tbE (off := 206) (tgt := 263) s_10 dX3_perform_57 (by decide) (by decide) (by decide) (by decide) ?_
    refine w_aload_n dX3_perform_263 rfl rfl ?_
    refine w_iload_n dX3_perform_264 rfl rfl ?_
    refine w_aload_n dX3_perform_265 rfl rfl ?_
    refine w_iload dX3_perform_266 rfl ?_
    refine w_v1 (d2 := 2) (L2 := 43) dX3_perform_268 vX3_86 rfl (q.1.lt (by decide)) rfl (by decide) (Nat.le_of_ble_eq_true rfl) (by decide) (by decide) ?_
    refine T_fetch f q (fun h11 f11 q11 => ?_)
    refine k_i rfl ?_
    refine w_v2 (d2 := 3) (L2 := 65) dX3_perform_271 vX3_103 rfl (q11.1.lt (by decide)) rfl rfl (by decide) (Nat.le_of_ble_eq_true rfl) (by decide) (by decide) ?_
    refine T_receive (in7 _) f11 q11 (fun h12 f12 q12 => ?_)
    refine k_v rfl ?_
    refine w_goto (tgt := 335) dX3_perform_274 (by decide) ?_
    refine w_vret dX3_perform_335 ?_
    rw [perS, if_neg s_0, if_neg s_1, if_neg s_2, if_neg s_3, if_neg s_4, if_neg s_5, if_neg s_6, if_neg s_7, if_neg s_8, if_neg s_9, if_pos s_10] at k; exact k _ f12 q12
  by_cases s_11 : w >>> ((12 : Int32) &&& 31) = 11
  · refine w_tbE (off := 220) (tgt := 277) s_11 dX3_perform_57 (by decide) (by decide) (by decide) (by decide) ?_
    refine w_aload_n dX3_perform_277 rfl rfl ?_
    refine w_aload_n dX3_perform_278 rfl rfl ?_
    refine w_iload dX3_perform_279 rfl ?_
    refine w_v1 (d2 := 2) (L2 := 43) dX3_perform_281 vX3_86 rfl (q.1.lt (by decide)) rfl (by decide) (Nat.le_of_ble_eq_true rfl) (by decide) (by decide) ?_
    refine T_fetch f q (fun h13 f13 q13 => ?_)
    refine k_i rfl ?_
    refine w_aload_n dX3_perform_284 rfl rfl ?_
    refine w_gs (b := 14) q13.1 dX3_perform_285 fX3_9 (by decide) rfl rfl (by decide) ?_
    refine w_iload_n dX3_perform_288 rfl rfl ?_
    refine r_get q13 dX3_perform_289 rfl (in7 _) ?_
    refine w_v2 (d2 := 2) (L2 := 45) dX3_perform_290 vX3_106 rfl (q13.1.lt (by decide)) rfl rfl (by decide) (Nat.le_of_ble_eq_true rfl) (by decide) (by decide) ?_
    refine T_give f13 q13 (fun h14 f14 q14 => ?_)
    refine k_v rfl ?_
    refine w_goto (tgt := 335) dX3_perform_293 (by decide) ?_
    refine w_vret dX3_perform_335 ?_
    rw [perS, if_neg s_0, if_neg s_1, if_neg s_2, if_neg s_3, if_neg s_4, if_neg s_5, if_neg s_6, if_neg s_7, if_neg s_8, if_neg s_9, if_neg s_10, if_pos s_11] at k; exact k _ f14 q14
  by_cases s_12 : w >>> ((12 : Int32) &&& 31) = 12
  · refine w_tbE (off := 239) (tgt := 296) s_12 dX3_perform_57 (by decide) (by decide) (by decide) (by decide) ?_
    refine w_aload_n dX3_perform_296 rfl rfl ?_
    refine w_gs (b := 14) q.1 dX3_perform_297 fX3_9 (by decide) rfl rfl (by decide) ?_
    refine w_bipush dX3_perform_300 (v := 8) (by decide) ?_
    refine w_iload_n dX3_perform_302 rfl rfl ?_
    refine r_put (k := 8) f q dX3_perform_303 (by decide) (vin (by decide)) (fun h15 f15 q15 => ?_)
    refine w_goto (tgt := 335) dX3_perform_304 (by decide) ?_
    refine w_vret dX3_perform_335 ?_
    rw [perS, if_neg s_0, if_neg s_1, if_neg s_2, if_neg s_3, if_neg s_4, if_neg s_5, if_neg s_6, if_neg s_7, if_neg s_8, if_neg s_9, if_neg s_10, if_neg s_11, if_pos s_12] at k; exact k _ f15 q15
  by_cases s_13 : w >>> ((12 : Int32) &&& 31) = 13
  · refine w_tbE (off := 250) (tgt := 307) s_13 dX3_perform_57 (by decide) (by decide) (by decide) (by decide) ?_
    refine w_aload_n dX3_perform_307 rfl rfl ?_
    refine w_iconst dX3_perform_308 (v := 1) (by decide) ?_
    refine x_put f q dX3_perform_309 fX3_43 (RC.raise q) rfl rfl (by decide) (fun h16 f16 q16 => ?_)
    refine w_goto (tgt := 335) dX3_perform_312 (by decide) ?_
    refine w_vret dX3_perform_335 ?_
    rw [perS, if_neg s_0, if_neg s_1, if_neg s_2, if_neg s_3, if_neg s_4, if_neg s_5, if_neg s_6, if_neg s_7, if_neg s_8, if_neg s_9, if_neg s_10, if_neg s_11, if_neg s_12, if_pos s_13] at k; exact k _ f16 q16
  by_cases s_14 : w >>> ((12 : Int32) &&& 31) = 14
  · refine w_tbE (off := 258) (tgt := 315) s_14 dX3_perform_57 (by decide) (by decide) (by decide) (by decide) ?_
    refine w_aload_n dX3_perform_315 rfl rfl ?_
    refine w_gs (b := 14) q.1 dX3_perform_316 fX3_9 (by decide) rfl rfl (by decide) ?_
    refine w_iload_n dX3_perform_319 rfl rfl ?_
    refine w_iload dX3_perform_320 rfl ?_
    refine r_put f q dX3_perform_322 rfl (in7 _) (fun h17 f17 q17 => ?_)
    refine w_goto (tgt := 335) dX3_perform_323 (by decide) ?_
    refine w_vret dX3_perform_335 ?_
    rw [perS, if_neg s_0, if_neg s_1, if_neg s_2, if_neg s_3, if_neg s_4, if_neg s_5, if_neg s_6, if_neg s_7, if_neg s_8, if_neg s_9, if_neg s_10, if_neg s_11, if_neg s_12, if_neg s_13, if_pos s_14] at k; exact k _ f17 q17
  refine w_tableOut (tgt := 326) dX3_perform_57 (by have t_0 := ne_toInt s_0 (n := 0) (by decide); have t_1 := ne_toInt s_1 (n := 1) (by decide); have t_2 := ne_toInt s_2 (n := 2) (by decide); have t_3 := ne_toInt s_3 (n := 3) (by decide); have t_4 := ne_toInt s_4 (n := 4) (by decide); have t_5 := ne_toInt s_5 (n := 5) (by decide); have t_6 := ne_toInt s_6 (n := 6) (by decide); have t_7 := ne_toInt s_7 (n := 7) (by decide); have t_8 := ne_toInt s_8 (n := 8) (by decide); have t_9 := ne_toInt s_9 (n := 9) (by decide); have t_10 := ne_toInt s_10 (n := 10) (by decide); have t_11 := ne_toInt s_11 (n := 11) (by decide); have t_12 := ne_toInt s_12 (n := 12) (by decide); have t_13 := ne_toInt s_13 (n := 13) (by decide); have t_14 := ne_toInt s_14 (n := 14) (by decide); omega) (by decide) ?_
  refine w_aload_n dX3_perform_326 rfl rfl ?_
  refine w_iload_n dX3_perform_327 rfl rfl ?_
  refine w_sipush dX3_perform_328 (v := 255) (by decide) ?_
  refine w_iand dX3_perform_331 ?_
  refine w_v1 (d2 := 3) (L2 := 67) dX3_perform_332 vX3_115 rfl (q.1.lt (by decide)) rfl (by decide) (Nat.le_of_ble_eq_true rfl) (by decide) (by decide) ?_
  refine T_trap f q (fun h18 f18 q18 => ?_)
  refine k_v rfl ?_
  refine w_vret dX3_perform_335 ?_
  rw [perS, if_neg s_0, if_neg s_1, if_neg s_2, if_neg s_3, if_neg s_4, if_neg s_5, if_neg s_6, if_neg s_7, if_neg s_8, if_neg s_9, if_neg s_10, if_neg s_11, if_neg s_12, if_neg s_13, if_neg s_14] at k; exact k _ f18 q18

noncomputable def intS (σ : MS) : MS := sG (entS (sG σ 17 (σ.1 17 + 1)) 384) 9 ((entS (sG σ 17 (σ.1 17 + 1)) 384).1 9 &&& (-1793) ||| 1024)
noncomputable def nr1 (σ : MS) : MS := sG (fetS (sG σ 20 (-1)) (σ.1 8)) 8 ((fetS (sG σ 20 (-1)) (σ.1 8)).1 8 + 1 &&& 65535)
noncomputable def nr2 (σ : MS) : MS := if (nr1 σ).1 20 = -1 then perS (nr1 σ) (fetV (sG σ 20 (-1)) (σ.1 8)) else nr1 σ
noncomputable def excS (σ : MS) : MS := entS (sG σ 18 (σ.1 18 + 1)) (256 + σ.1 20)
noncomputable def norS (σ : MS) : MS := if (nr2 σ).1 20 = -1 then nr2 σ else excS (nr2 σ)
/-- a STEP -/
noncomputable def stpS (σ : MS) : MS := if stS σ = 49152 then (if 1024 ≤ σ.1 9 &&& 1792 then norS σ else intS σ) else norS σ
set_option maxRecDepth 20000 in
set_option maxHeartbeats 4000000 in
/-- step() -/
theorem T_step {X : Nat × (Nat → Int32)} {h0 h : PH} {σ : MS} {Q : Option Value → PH → Prop} (f : Fm h0 h) (q : RC h σ) (k : ∀ h', Fm h0 h' → RC h' (stpS σ) → Q none h') : WP X mX3_step 5 113 0 (en 2 [.ref 13]) [] h Q := by
  refine w_aload_n dX3_step_0 rfl rfl ?_
  refine w_gs (b := 18) q.1 dX3_step_1 fX3_28 (by decide) rfl rfl (by decide) ?_
  refine w_v0 (d2 := 0) (L2 := 0) dX3_step_4 vX3_77 rfl (q.1.lt (by decide)) (by decide) (Nat.le_of_ble_eq_true rfl) (by decide) (by decide) ?_
  refine T_status q ?_
  refine k_i rfl ?_
  refine w_ldc dX3_step_7 kX3_81 ?_
  refine w_icmp_ne (tgt := 69) dX3_step_9 (by decide) (fun c_9 => ?_) (fun c_9 => ?_)
  · refine w_aload_n dX3_step_69 rfl rfl ?_
    refine w_iconst dX3_step_70 (v := (-1)) (by decide) ?_
    refine x_put f q dX3_step_71 fX3_43 (RC.raise q) rfl rfl (by decide) (fun h1 f1 q1 => ?_)
    refine w_aload_n dX3_step_74 rfl rfl ?_
    refine w_aload_n dX3_step_75 rfl rfl ?_
    refine w_gs (b := 14) q1.1 dX3_step_76 fX3_9 (by decide) rfl rfl (by decide) ?_
    refine w_bipush dX3_step_79 (v := 8) (by decide) ?_
    refine r_get (k := 8) q1 dX3_step_81 (by decide) (vin (by decide)) ?_
    refine w_v1 (d2 := 2) (L2 := 43) dX3_step_82 vX3_86 rfl (q1.1.lt (by decide)) rfl (by decide) (Nat.le_of_ble_eq_true rfl) (by decide) (by decide) ?_
    refine T_fetch f1 q1 (fun h2 f2 q2 => ?_)
    refine k_i rfl ?_
    refine w_istore_n dX3_step_85 rfl (by decide) ?_
    refine w_aload_n dX3_step_86 rfl rfl ?_
    refine w_gs (b := 14) q2.1 dX3_step_87 fX3_9 (by decide) rfl rfl (by decide) ?_
    refine w_bipush dX3_step_90 (v := 8) (by decide) ?_
    refine w_aload_n dX3_step_92 rfl rfl ?_
    refine w_gs (b := 14) q2.1 dX3_step_93 fX3_9 (by decide) rfl rfl (by decide) ?_
    refine w_bipush dX3_step_96 (v := 8) (by decide) ?_
    refine r_get (k := 8) q2 dX3_step_98 (by decide) (vin (by decide)) ?_
    refine w_iconst dX3_step_99 (v := 1) (by decide) ?_
    refine w_iadd dX3_step_100 ?_
    refine w_ldc dX3_step_101 kX3_66 ?_
    refine w_iand dX3_step_103 ?_
    refine r_put (k := 8) f2 q2 dX3_step_104 (by decide) (vin (by decide)) (fun h3 f3 q3 => ?_)
    refine w_aload_n dX3_step_105 rfl rfl ?_
    refine x_get q3.1 dX3_step_106 fX3_43 (rcR q3) rfl rfl (by decide) ?_
    refine w_iconst dX3_step_109 (v := (-1)) (by decide) ?_
    refine w_icmp_ne (tgt := 118) dX3_step_110 (by decide) (fun c_110 => ?_) (fun c_110 => ?_)
    · refine w_aload_n dX3_step_118 rfl rfl ?_
      refine x_get q3.1 dX3_step_119 fX3_43 (rcR q3) rfl rfl (by decide) ?_
      refine w_iconst dX3_step_122 (v := (-1)) (by decide) ?_
      refine w_icmp_eq (tgt := 148) dX3_step_123 (by decide) (fun c_123 => absurd c_123 c_110) (fun c_123 => ?_)
      refine w_aload_n dX3_step_126 rfl rfl ?_
      refine w_gs (b := 15) q3.1 dX3_step_127 fX3_15 (by decide) rfl rfl (by decide) ?_
      refine w_iconst dX3_step_130 (v := 2) (by decide) ?_
      refine w_dup2 dX3_step_131 rfl rfl ?_
      refine c_get (k := 2) q3 dX3_step_132 (by decide) (vin (by decide)) ?_
      refine w_iconst dX3_step_133 (v := 1) (by decide) ?_
      refine w_iadd dX3_step_134 ?_
      refine c_put (k := 2) f3 q3 dX3_step_135 (by decide) (vin (by decide)) (fun h4 f4 q4 => ?_)
      refine w_aload_n dX3_step_136 rfl rfl ?_
      refine w_sipush dX3_step_137 (v := 256) (by decide) ?_
      refine w_aload_n dX3_step_140 rfl rfl ?_
      refine x_get q4.1 dX3_step_141 fX3_43 (rcR q4) rfl rfl (by decide) ?_
      refine w_iadd dX3_step_144 ?_
      refine w_v1 (d2 := 2) (L2 := 45) dX3_step_145 vX3_82 rfl (q4.1.lt (by decide)) rfl (by decide) (Nat.le_of_ble_eq_true rfl) (by decide) (by decide) ?_
      refine T_enter f4 q4 (fun h5 f5 q5 => ?_)
      refine k_v rfl ?_
      refine w_vret dX3_step_148 ?_
      rw [stpS, if_neg c_9, norS, if_neg (show ¬ (nr2 σ).1 20 = -1 from by rw [nr2, if_neg (show ¬ (nr1 σ).1 20 = -1 from c_110)]; exact c_110), excS, nr2, if_neg (show ¬ (nr1 σ).1 20 = -1 from c_110)] at k; exact k _ f5 q5
    · refine w_aload_n dX3_step_113 rfl rfl ?_
      refine w_iload_n dX3_step_114 rfl rfl ?_
      refine w_v1 (d2 := 4) (L2 := 88) dX3_step_115 vX3_90 rfl (q3.1.lt (by decide)) rfl (by decide) (Nat.le_of_ble_eq_true rfl) (by decide) (by decide) ?_
      refine T_perform f3 q3 (fun h6 f6 q6 => ?_)
      refine k_v rfl ?_
      refine w_aload_n dX3_step_118 rfl rfl ?_
      refine x_get q6.1 dX3_step_119 fX3_43 (rcR q6) rfl rfl (by decide) ?_
      refine w_iconst dX3_step_122 (v := (-1)) (by decide) ?_
      refine w_icmp_eq (tgt := 148) dX3_step_123 (by decide) (fun c_123 => ?_) (fun c_123 => ?_)
      · refine w_vret dX3_step_148 ?_
        rw [stpS, if_neg c_9, norS, if_pos (show (nr2 σ).1 20 = -1 from by rw [nr2, if_pos (show (nr1 σ).1 20 = -1 from c_110)]; exact c_123), nr2, if_pos (show (nr1 σ).1 20 = -1 from c_110)] at k; exact k _ f6 q6
      · refine w_aload_n dX3_step_126 rfl rfl ?_
        refine w_gs (b := 15) q6.1 dX3_step_127 fX3_15 (by decide) rfl rfl (by decide) ?_
        refine w_iconst dX3_step_130 (v := 2) (by decide) ?_
        refine w_dup2 dX3_step_131 rfl rfl ?_
        refine c_get (k := 2) q6 dX3_step_132 (by decide) (vin (by decide)) ?_
        refine w_iconst dX3_step_133 (v := 1) (by decide) ?_
        refine w_iadd dX3_step_134 ?_
        refine c_put (k := 2) f6 q6 dX3_step_135 (by decide) (vin (by decide)) (fun h7 f7 q7 => ?_)
        refine w_aload_n dX3_step_136 rfl rfl ?_
        refine w_sipush dX3_step_137 (v := 256) (by decide) ?_
        refine w_aload_n dX3_step_140 rfl rfl ?_
        refine x_get q7.1 dX3_step_141 fX3_43 (rcR q7) rfl rfl (by decide) ?_
        refine w_iadd dX3_step_144 ?_
        refine w_v1 (d2 := 2) (L2 := 45) dX3_step_145 vX3_82 rfl (q7.1.lt (by decide)) rfl (by decide) (Nat.le_of_ble_eq_true rfl) (by decide) (by decide) ?_
        refine T_enter f7 q7 (fun h8 f8 q8 => ?_)
        refine k_v rfl ?_
        refine w_vret dX3_step_148 ?_
        rw [stpS, if_neg c_9, norS, if_neg (show ¬ (nr2 σ).1 20 = -1 from by rw [nr2, if_pos (show (nr1 σ).1 20 = -1 from c_110)]; exact c_123), excS, nr2, if_pos (show (nr1 σ).1 20 = -1 from c_110)] at k; exact k _ f8 q8
  · refine w_aload_n dX3_step_12 rfl rfl ?_
    refine w_gs (b := 14) q.1 dX3_step_13 fX3_9 (by decide) rfl rfl (by decide) ?_
    refine w_bipush dX3_step_16 (v := 9) (by decide) ?_
    refine r_get (k := 9) q dX3_step_18 (by decide) (vin (by decide)) ?_
    refine w_sipush dX3_step_19 (v := 1792) (by decide) ?_
    refine w_iand dX3_step_22 ?_
    refine w_sipush dX3_step_23 (v := 1024) (by decide) ?_
    refine w_icmp_ge (tgt := 69) dX3_step_26 (by decide) (fun c_26 => ?_) (fun c_26 => ?_)
    · refine w_aload_n dX3_step_69 rfl rfl ?_
      refine w_iconst dX3_step_70 (v := (-1)) (by decide) ?_
      refine x_put f q dX3_step_71 fX3_43 (RC.raise q) rfl rfl (by decide) (fun h9 f9 q9 => ?_)
      refine w_aload_n dX3_step_74 rfl rfl ?_
      refine w_aload_n dX3_step_75 rfl rfl ?_
      refine w_gs (b := 14) q9.1 dX3_step_76 fX3_9 (by decide) rfl rfl (by decide) ?_
      refine w_bipush dX3_step_79 (v := 8) (by decide) ?_
      refine r_get (k := 8) q9 dX3_step_81 (by decide) (vin (by decide)) ?_
      refine w_v1 (d2 := 2) (L2 := 43) dX3_step_82 vX3_86 rfl (q9.1.lt (by decide)) rfl (by decide) (Nat.le_of_ble_eq_true rfl) (by decide) (by decide) ?_
      refine T_fetch f9 q9 (fun h10 f10 q10 => ?_)
      refine k_i rfl ?_
      refine w_istore_n dX3_step_85 rfl (by decide) ?_
      refine w_aload_n dX3_step_86 rfl rfl ?_
      refine w_gs (b := 14) q10.1 dX3_step_87 fX3_9 (by decide) rfl rfl (by decide) ?_
      refine w_bipush dX3_step_90 (v := 8) (by decide) ?_
      refine w_aload_n dX3_step_92 rfl rfl ?_
      refine w_gs (b := 14) q10.1 dX3_step_93 fX3_9 (by decide) rfl rfl (by decide) ?_
      refine w_bipush dX3_step_96 (v := 8) (by decide) ?_
      refine r_get (k := 8) q10 dX3_step_98 (by decide) (vin (by decide)) ?_
      refine w_iconst dX3_step_99 (v := 1) (by decide) ?_
      refine w_iadd dX3_step_100 ?_
      refine w_ldc dX3_step_101 kX3_66 ?_
      refine w_iand dX3_step_103 ?_
      refine r_put (k := 8) f10 q10 dX3_step_104 (by decide) (vin (by decide)) (fun h11 f11 q11 => ?_)
      refine w_aload_n dX3_step_105 rfl rfl ?_
      refine x_get q11.1 dX3_step_106 fX3_43 (rcR q11) rfl rfl (by decide) ?_
      refine w_iconst dX3_step_109 (v := (-1)) (by decide) ?_
      refine w_icmp_ne (tgt := 118) dX3_step_110 (by decide) (fun c_110 => ?_) (fun c_110 => ?_)
      · refine w_aload_n dX3_step_118 rfl rfl ?_
        refine x_get q11.1 dX3_step_119 fX3_43 (rcR q11) rfl rfl (by decide) ?_
        refine w_iconst dX3_step_122 (v := (-1)) (by decide) ?_
        refine w_icmp_eq (tgt := 148) dX3_step_123 (by decide) (fun c_123 => absurd c_123 c_110) (fun c_123 => ?_)
        refine w_aload_n dX3_step_126 rfl rfl ?_
        refine w_gs (b := 15) q11.1 dX3_step_127 fX3_15 (by decide) rfl rfl (by decide) ?_
        refine w_iconst dX3_step_130 (v := 2) (by decide) ?_
        refine w_dup2 dX3_step_131 rfl rfl ?_
        refine c_get (k := 2) q11 dX3_step_132 (by decide) (vin (by decide)) ?_
        refine w_iconst dX3_step_133 (v := 1) (by decide) ?_
        refine w_iadd dX3_step_134 ?_
        refine c_put (k := 2) f11 q11 dX3_step_135 (by decide) (vin (by decide)) (fun h12 f12 q12 => ?_)
        refine w_aload_n dX3_step_136 rfl rfl ?_
        refine w_sipush dX3_step_137 (v := 256) (by decide) ?_
        refine w_aload_n dX3_step_140 rfl rfl ?_
        refine x_get q12.1 dX3_step_141 fX3_43 (rcR q12) rfl rfl (by decide) ?_
        refine w_iadd dX3_step_144 ?_
        refine w_v1 (d2 := 2) (L2 := 45) dX3_step_145 vX3_82 rfl (q12.1.lt (by decide)) rfl (by decide) (Nat.le_of_ble_eq_true rfl) (by decide) (by decide) ?_
        refine T_enter f12 q12 (fun h13 f13 q13 => ?_)
        refine k_v rfl ?_
        refine w_vret dX3_step_148 ?_
        rw [stpS, if_pos c_9, if_pos c_26, norS, if_neg (show ¬ (nr2 σ).1 20 = -1 from by rw [nr2, if_neg (show ¬ (nr1 σ).1 20 = -1 from c_110)]; exact c_110), excS, nr2, if_neg (show ¬ (nr1 σ).1 20 = -1 from c_110)] at k; exact k _ f13 q13
      · refine w_aload_n dX3_step_113 rfl rfl ?_
        refine w_iload_n dX3_step_114 rfl rfl ?_
        refine w_v1 (d2 := 4) (L2 := 88) dX3_step_115 vX3_90 rfl (q11.1.lt (by decide)) rfl (by decide) (Nat.le_of_ble_eq_true rfl) (by decide) (by decide) ?_
        refine T_perform f11 q11 (fun h14 f14 q14 => ?_)
        refine k_v rfl ?_
        refine w_aload_n dX3_step_118 rfl rfl ?_
        refine x_get q14.1 dX3_step_119 fX3_43 (rcR q14) rfl rfl (by decide) ?_
        refine w_iconst dX3_step_122 (v := (-1)) (by decide) ?_
        refine w_icmp_eq (tgt := 148) dX3_step_123 (by decide) (fun c_123 => ?_) (fun c_123 => ?_)
        · refine w_vret dX3_step_148 ?_
          rw [stpS, if_pos c_9, if_pos c_26, norS, if_pos (show (nr2 σ).1 20 = -1 from by rw [nr2, if_pos (show (nr1 σ).1 20 = -1 from c_110)]; exact c_123), nr2, if_pos (show (nr1 σ).1 20 = -1 from c_110)] at k; exact k _ f14 q14
        · refine w_aload_n dX3_step_126 rfl rfl ?_
          refine w_gs (b := 15) q14.1 dX3_step_127 fX3_15 (by decide) rfl rfl (by decide) ?_
          refine w_iconst dX3_step_130 (v := 2) (by decide) ?_
          refine w_dup2 dX3_step_131 rfl rfl ?_
          refine c_get (k := 2) q14 dX3_step_132 (by decide) (vin (by decide)) ?_
          refine w_iconst dX3_step_133 (v := 1) (by decide) ?_
          refine w_iadd dX3_step_134 ?_
          refine c_put (k := 2) f14 q14 dX3_step_135 (by decide) (vin (by decide)) (fun h15 f15 q15 => ?_)
          refine w_aload_n dX3_step_136 rfl rfl ?_
          refine w_sipush dX3_step_137 (v := 256) (by decide) ?_
          refine w_aload_n dX3_step_140 rfl rfl ?_
          refine x_get q15.1 dX3_step_141 fX3_43 (rcR q15) rfl rfl (by decide) ?_
          refine w_iadd dX3_step_144 ?_
          refine w_v1 (d2 := 2) (L2 := 45) dX3_step_145 vX3_82 rfl (q15.1.lt (by decide)) rfl (by decide) (Nat.le_of_ble_eq_true rfl) (by decide) (by decide) ?_
          refine T_enter f15 q15 (fun h16 f16 q16 => ?_)
          refine k_v rfl ?_
          refine w_vret dX3_step_148 ?_
          rw [stpS, if_pos c_9, if_pos c_26, norS, if_neg (show ¬ (nr2 σ).1 20 = -1 from by rw [nr2, if_pos (show (nr1 σ).1 20 = -1 from c_110)]; exact c_123), excS, nr2, if_pos (show (nr1 σ).1 20 = -1 from c_110)] at k; exact k _ f16 q16
    · refine w_aload_n dX3_step_29 rfl rfl ?_
      refine w_gs (b := 15) q.1 dX3_step_30 fX3_15 (by decide) rfl rfl (by decide) ?_
      refine w_iconst dX3_step_33 (v := 1) (by decide) ?_
      refine w_dup2 dX3_step_34 rfl rfl ?_
      refine c_get (k := 1) q dX3_step_35 (by decide) (vin (by decide)) ?_
      refine w_iconst dX3_step_36 (v := 1) (by decide) ?_
      refine w_iadd dX3_step_37 ?_
      refine c_put (k := 1) f q dX3_step_38 (by decide) (vin (by decide)) (fun h17 f17 q17 => ?_)
      refine w_aload_n dX3_step_39 rfl rfl ?_
      refine w_sipush dX3_step_40 (v := 384) (by decide) ?_
      refine w_v1 (d2 := 2) (L2 := 45) dX3_step_43 vX3_82 rfl (q17.1.lt (by decide)) rfl (by decide) (Nat.le_of_ble_eq_true rfl) (by decide) (by decide) ?_
      refine T_enter f17 q17 (fun h18 f18 q18 => ?_)
      refine k_v rfl ?_
      refine w_aload_n dX3_step_46 rfl rfl ?_
      refine w_gs (b := 14) q18.1 dX3_step_47 fX3_9 (by decide) rfl rfl (by decide) ?_
      refine w_bipush dX3_step_50 (v := 9) (by decide) ?_
      refine w_aload_n dX3_step_52 rfl rfl ?_
      refine w_gs (b := 14) q18.1 dX3_step_53 fX3_9 (by decide) rfl rfl (by decide) ?_
      refine w_bipush dX3_step_56 (v := 9) (by decide) ?_
      refine r_get (k := 9) q18 dX3_step_58 (by decide) (vin (by decide)) ?_
      refine w_sipush dX3_step_59 (v := (-1793)) (by decide) ?_
      refine w_iand dX3_step_62 ?_
      refine w_sipush dX3_step_63 (v := 1024) (by decide) ?_
      refine w_ior dX3_step_66 ?_
      refine r_put (k := 9) f18 q18 dX3_step_67 (by decide) (vin (by decide)) (fun h19 f19 q19 => ?_)
      refine w_vret dX3_step_68 ?_
      rw [stpS, if_pos c_9, if_neg c_26] at k; exact k _ f19 q19

