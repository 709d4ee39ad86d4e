/-! THE CLASS: go, typed, clearRegisters -/
noncomputable def goS : Nat → MS → Nat → MS × Nat
  | 0, σ, n => (σ, n)
  | m + 1, σ, n => if σ.1 12 = 1 then (σ, n) else if (stpS (sG σ 12 0)).1 12 = 2 then (stpS (sG σ 12 0), n + 1) else goS m (stpS (sG σ 12 0)) (n + 1)
def goE (p : MS × Nat) : MS := sG p.1 16 (p.1.1 16 + nI p.2)
theorem T_kadd2 {X : Nat × (Nat → Int32)} {h0 h : PH} {σ : MS} {Q : Option Value → PH → Prop} {b : Int32} (f : Fm h0 h) (q : RC h σ) (k0 : 100 ≤ σ.2.2.1.length → Q (some (.int 0)) h) (k : σ.2.2.1.length < 100 → ∀ h', Fm h0 h' → RC h' (sK σ (σ.2.2.1 ++ [b &&& 255])) → Q (some (.int 1)) h') : WP X mX2_add 0 0 0 (en 2 [.ref 18, .int b]) [] h Q := T_kadd q k0 (fun c h' g r => k c h' (f.tr g) r)
set_option maxRecDepth 20000 in
set_option maxHeartbeats 4000000 in
theorem L_go50 {X : Nat × (Nat → Int32)} {h0 h : PH} {σ : MS} {Q : Option Value → PH → Prop} {mo : Int32} {n : Nat} {t : Option Value} (f : Fm h0 h) (q : RC h σ) (k : ∀ h', Fm h0 h' → RC h' (goE (σ, n)) → Q (some (.int (nI n))) h') : WP X mX3_go 6 134 50 [some (.ref 13), some (.int mo), some (.int (nI n)), t] [] h Q := by
  refine w_aload_n dX3_go_50 rfl rfl ?_
  refine w_gs (b := 15) q.1 dX3_go_51 fX3_15 (by decide) rfl rfl (by decide) ?_
  refine w_iconst dX3_go_54 (v := 0) (by decide) ?_
  refine w_dup2 dX3_go_55 rfl rfl ?_
  refine c_get (k := 0) q dX3_go_56 (by decide) (vin (by decide)) ?_
  refine w_iload_n dX3_go_57 rfl rfl ?_
  refine w_iadd dX3_go_58 ?_
  refine c_put (k := 0) f q dX3_go_59 (by decide) (vin (by decide)) (fun h1 f1 q1 => ?_)
  refine w_iload_n dX3_go_60 rfl rfl ?_
  refine w_iret dX3_go_61 (fun _ e => by cases e; rfl) ?_
  exact k _ f1 q1

set_option maxRecDepth 20000 in
set_option maxHeartbeats 4000000 in
theorem L_go1 {X : Nat × (Nat → Int32)} {h0 h : PH} {σ : MS} {Q : Option Value → PH → Prop} {mo : Int32} {n : Nat} (hs2 : σ.1 12 = 2) (f : Fm h0 h) (q : RC h σ) (k : ∀ h', Fm h0 h' → RC h' (goE (σ, n)) → Q (some (.int (nI n))) h') : WP X mX3_go 6 134 4 [some (.ref 13), some (.int mo), some (.int (nI n)), some (.int 1)] [] h Q := by
  refine w_iload_n dX3_go_4 rfl rfl ?_
  refine w_iload_n dX3_go_5 rfl rfl ?_
  refine w_icmp_ge (tgt := 50) dX3_go_6 (by decide) (fun c_6 => ?_) (fun c_6 => ?_)
  · exact L_go50 f q k
  · refine w_aload_n dX3_go_9 rfl rfl ?_
    refine x_get q.1 dX3_go_10 fX3_39 (rcS q) rfl rfl (by decide) ?_
    refine w_iconst dX3_go_13 (v := 1) (by decide) ?_
    refine w_icmp_eq (tgt := 50) dX3_go_14 (by decide) (fun c_14 => ?_) (fun c_14 => ?_)
    · exact L_go50 f q k
    · refine w_iload_n dX3_go_17 rfl rfl ?_
      refine w_if_ne (tgt := 50) dX3_go_18 (by decide) (fun c_18 => ?_) (fun c_18 => absurd c_18 (by decide))
      exact L_go50 f q k

set_option maxRecDepth 20000 in
set_option maxHeartbeats 4000000 in
theorem L_go {X : Nat × (Nat → Int32)} {h0 : PH} {Q : Option Value → PH → Prop} {mo : Nat} (hmo : mo ≤ 20000) : ∀ (m n : Nat) (h : PH) (σ : MS), n + m = mo → Fm h0 h → RC h σ → (∀ h', Fm h0 h' → RC h' (goE (goS m σ n)) → Q (some (.int (nI (goS m σ n).2))) h') → WP X mX3_go 6 134 4 [some (.ref 13), some (.int (nI mo)), some (.int (nI n)), some (.int 0)] [] h Q := by
  intro m
  induction m with
  | zero =>
    intro n h σ hn f q k
    obtain rfl : n = mo := by omega
    refine w_iload_n dX3_go_4 rfl rfl ?_
    refine w_iload_n dX3_go_5 rfl rfl ?_
    refine w_icmp_ge (tgt := 50) dX3_go_6 (by decide) (fun c_6 => ?_) (fun c_6 => absurd c_6 (not_not_intro (nI_le (Nat.le_refl n) (by omega))))
    exact L_go50 f q k
  | succ m ih =>
    intro n h σ hn f q k
    refine w_iload_n dX3_go_4 rfl rfl ?_
    refine w_iload_n dX3_go_5 rfl rfl ?_
    refine w_icmp_ge (tgt := 50) dX3_go_6 (by decide) (fun c_6 => absurd c_6 (nI_ge (by omega) (by omega))) (fun c_6 => ?_)
    refine w_aload_n dX3_go_9 rfl rfl ?_
    refine x_get q.1 dX3_go_10 fX3_39 (rcS q) rfl rfl (by decide) ?_
    refine w_iconst dX3_go_13 (v := 1) (by decide) ?_
    refine w_icmp_eq (tgt := 50) dX3_go_14 (by decide) (fun c_14 => ?_) (fun c_14 => ?_)
    · rw [goS, if_pos c_14] at k; exact L_go50 f q k
    · refine w_iload_n dX3_go_17 rfl rfl ?_
      refine w_if_ne (tgt := 50) dX3_go_18 (by decide) (fun c_18 => absurd c_18 (by decide)) (fun c_18 => ?_)
      refine w_aload_n dX3_go_21 rfl rfl ?_
      refine w_iconst dX3_go_22 (v := 0) (by decide) ?_
      refine x_put f q dX3_go_23 fX3_39 (RC.state q) rfl rfl (by decide) (fun h1 f1 q1 => ?_)
      refine w_aload_n dX3_go_26 rfl rfl ?_
      refine w_v0 (d2 := 5) (L2 := 113) dX3_go_27 vX3_74 rfl (q1.1.lt (by decide)) (by decide) (Nat.le_of_ble_eq_true rfl) (by decide) (by decide) ?_
      refine T_step f1 q1 (fun h2 f2 q2 => ?_)
      refine k_v rfl ?_
      refine w_iinc (v := nI (n + 1)) dX3_go_30 rfl (nI_1 n) (by decide) ?_
      refine w_aload_n dX3_go_33 rfl rfl ?_
      refine x_get q2.1 dX3_go_34 fX3_39 (rcS q2) rfl rfl (by decide) ?_
      refine w_iconst dX3_go_37 (v := 2) (by decide) ?_
      refine w_icmp_ne (tgt := 45) dX3_go_38 (by decide) (fun c_38 => ?_) (fun c_38 => ?_)
      · refine w_iconst dX3_go_45 (v := 0) (by decide) ?_
        refine w_istore_n dX3_go_46 rfl (by decide) ?_
        refine w_goto (tgt := 4) dX3_go_47 (by decide) ?_
        rw [goS, if_neg c_14, if_neg c_38] at k; exact ih (n + 1) _ _ (by omega) f2 q2 k
      · refine w_iconst dX3_go_41 (v := 1) (by decide) ?_
        refine w_goto (tgt := 46) dX3_go_42 (by decide) ?_
        refine w_istore_n dX3_go_46 rfl (by decide) ?_
        refine w_goto (tgt := 4) dX3_go_47 (by decide) ?_
        rw [goS, if_neg c_14, if_pos c_38] at k; exact L_go1 c_38 f2 q2 k

set_option maxRecDepth 20000 in
set_option maxHeartbeats 4000000 in
/-- go(most) -/
theorem T_go {X : Nat × (Nat → Int32)} {h0 h : PH} {σ : MS} {Q : Option Value → PH → Prop} {mo : Nat} (hmo : mo ≤ 20000) (f : Fm h0 h) (q : RC h σ) (k : ∀ h', Fm h0 h' → RC h' (goE (goS mo σ 0)) → Q (some (.int (nI (goS mo σ 0).2))) h') : WP X mX3_go 6 134 0 (en 4 [.ref 13, .int (nI mo)]) [] h Q := by
  refine w_iconst dX3_go_0 (v := 0) (by decide) ?_
  refine w_istore_n dX3_go_1 rfl (by decide) ?_
  refine w_iconst dX3_go_2 (v := 0) (by decide) ?_
  refine w_istore_n dX3_go_3 rfl (by decide) ?_
  exact L_go hmo mo 0 _ _ (by omega) f q k

def typS (σ : MS) (b : Int32) : MS := if σ.2.2.1.length < 100 then (if σ.1 12 = 2 then sG (sK σ (σ.2.2.1 ++ [b &&& 255])) 12 0 else sK σ (σ.2.2.1 ++ [b &&& 255])) else σ
def clL : Nat → MS → Nat → MS
  | 0, σ, _ => σ
  | m + 1, σ, n => clL m (sG σ n 0) (n + 1)
def clrS (σ : MS) : MS := sG (sG (sG (sG (clL 8 σ 0) 8 12288) 9 32770) 10 12288) 11 65024
set_option maxRecDepth 20000 in
set_option maxHeartbeats 4000000 in
/-- typed(k) -/
theorem T_typed {X : Nat × (Nat → Int32)} {h0 h : PH} {σ : MS} {Q : Option Value → PH → Prop} {b : Int32} (f : Fm h0 h) (q : RC h σ) (k : ∀ h', Fm h0 h' → RC h' (typS σ b) → Q (some (.int (if σ.2.2.1.length < 100 then 1 else 0))) h') : WP X mX3_typed 1 21 0 (en 2 [.ref 13, .int b]) [] h Q := by
  refine w_aload_n dX3_typed_0 rfl rfl ?_
  refine w_gs (b := 18) q.1 dX3_typed_1 fX3_28 (by decide) rfl rfl (by decide) ?_
  refine w_iload_n dX3_typed_4 rfl rfl ?_
  refine w_v1 (d2 := 0) (L2 := 0) dX3_typed_5 vX3_70 rfl (q.1.lt (by decide)) rfl (by decide) (Nat.le_of_ble_eq_true rfl) (by decide) (by decide) ?_
  refine T_kadd2 f q (fun c_5 => ?_) (fun c_5 h1 f1 q1 => ?_)
  · refine k_i rfl ?_
    refine w_if_ne (tgt := 13) dX3_typed_8 (by decide) (fun c_8 => absurd c_8 (by decide)) (fun c_8 => ?_)
    refine w_iconst dX3_typed_11 (v := 0) (by decide) ?_
    refine w_iret dX3_typed_12 (fun _ e => by cases e; decide) ?_
    rw [typS, if_neg (by omega), if_neg (by omega)] at k; exact k _ f q
  · refine k_i rfl ?_
    refine w_if_ne (tgt := 13) dX3_typed_8 (by decide) (fun c_8 => ?_) (fun c_8 => absurd c_8 (by decide))
    refine w_aload_n dX3_typed_13 rfl rfl ?_
    refine x_get q1.1 dX3_typed_14 fX3_39 (rcS q1) rfl rfl (by decide) ?_
    refine w_iconst dX3_typed_17 (v := 2) (by decide) ?_
    refine w_icmp_ne (tgt := 26) dX3_typed_18 (by decide) (fun c_18 => ?_) (fun c_18 => ?_)
    · refine w_iconst dX3_typed_26 (v := 1) (by decide) ?_
      refine w_iret dX3_typed_27 (fun _ e => by cases e; decide) ?_
      rw [typS, if_pos c_5, if_pos c_5, if_neg (show ¬ σ.1 12 = 2 from c_18)] at k; exact k _ f1 q1
    · refine w_aload_n dX3_typed_21 rfl rfl ?_
      refine w_iconst dX3_typed_22 (v := 0) (by decide) ?_
      refine x_put f1 q1 dX3_typed_23 fX3_39 (RC.state q1) rfl rfl (by decide) (fun h2 f2 q2 => ?_)
      refine w_iconst dX3_typed_26 (v := 1) (by decide) ?_
      refine w_iret dX3_typed_27 (fun _ e => by cases e; decide) ?_
      rw [typS, if_pos c_5, if_pos c_5, if_pos (show σ.1 12 = 2 from c_18)] at k; exact k _ f2 q2

set_option maxRecDepth 20000 in
set_option maxHeartbeats 4000000 in
theorem L_clr {X : Nat × (Nat → Int32)} {h0 : PH} {Q : Option Value → PH → Prop} : ∀ (m n : Nat) (h : PH) (σ : MS), n + m = 8 → Fm h0 h → RC h σ → (∀ h', Fm h0 h' → RC h' (sG (sG (sG (sG (clL m σ n) 8 12288) 9 32770) 10 12288) 11 65024) → Q none h') → WP X mX3_clearRegisters 0 0 2 [some (.ref 13), some (.int (nI n))] [] h Q := by
  intro m
  induction m with
  | zero =>
    intro n h σ hn f q k
    obtain rfl : n = 8 := by omega
    refine w_iload_n dX3_clearRegisters_2 rfl rfl ?_
    refine w_bipush dX3_clearRegisters_3 (v := 8) (by decide) ?_
    refine w_icmp_ge (tgt := 21) dX3_clearRegisters_5 (by decide) (fun c_5 => ?_) (fun c_5 => absurd c_5 (not_not_intro (show (8 : Int32) ≤ nI 8 from by decide)))
    refine w_aload_n dX3_clearRegisters_21 rfl rfl ?_
    refine w_gs (b := 14) q.1 dX3_clearRegisters_22 fX3_9 (by decide) rfl rfl (by decide) ?_
    refine w_bipush dX3_clearRegisters_25 (v := 8) (by decide) ?_
    refine w_sipush dX3_clearRegisters_27 (v := 12288) (by decide) ?_
    refine r_put (k := 8) f q dX3_clearRegisters_30 (by decide) (vin (by decide)) (fun h1 f1 q1 => ?_)
    refine w_aload_n dX3_clearRegisters_31 rfl rfl ?_
    refine w_gs (b := 14) q1.1 dX3_clearRegisters_32 fX3_9 (by decide) rfl rfl (by decide) ?_
    refine w_bipush dX3_clearRegisters_35 (v := 9) (by decide) ?_
    refine w_ldc dX3_clearRegisters_37 kX3_49 ?_
    refine r_put (k := 9) f1 q1 dX3_clearRegisters_39 (by decide) (vin (by decide)) (fun h2 f2 q2 => ?_)
    refine w_aload_n dX3_clearRegisters_40 rfl rfl ?_
    refine w_gs (b := 14) q2.1 dX3_clearRegisters_41 fX3_9 (by decide) rfl rfl (by decide) ?_
    refine w_bipush dX3_clearRegisters_44 (v := 10) (by decide) ?_
    refine w_sipush dX3_clearRegisters_46 (v := 12288) (by decide) ?_
    refine r_put (k := 10) f2 q2 dX3_clearRegisters_49 (by decide) (vin (by decide)) (fun h3 f3 q3 => ?_)
    refine w_aload_n dX3_clearRegisters_50 rfl rfl ?_
    refine w_gs (b := 14) q3.1 dX3_clearRegisters_51 fX3_9 (by decide) rfl rfl (by decide) ?_
    refine w_bipush dX3_clearRegisters_54 (v := 11) (by decide) ?_
    refine w_ldc dX3_clearRegisters_56 kX3_50 ?_
    refine r_put (k := 11) f3 q3 dX3_clearRegisters_58 (by decide) (vin (by decide)) (fun h4 f4 q4 => ?_)
    refine w_vret dX3_clearRegisters_59 ?_
    exact k _ f4 q4
  | succ m ih =>
    intro n h σ hn f q k
    refine w_iload_n dX3_clearRegisters_2 rfl rfl ?_
    refine w_bipush dX3_clearRegisters_3 (v := 8) (by decide) ?_
    refine w_icmp_ge (tgt := 21) dX3_clearRegisters_5 (by decide) (fun c_5 => absurd c_5 (show ¬ (8 : Int32) ≤ nI n from nI_ge (a := n) (b := 8) (by omega) (by decide))) (fun c_5 => ?_)
    refine w_aload_n dX3_clearRegisters_8 rfl rfl ?_
    refine w_gs (b := 14) q.1 dX3_clearRegisters_9 fX3_9 (by decide) rfl rfl (by decide) ?_
    refine w_iload_n dX3_clearRegisters_12 rfl rfl ?_
    refine w_iconst dX3_clearRegisters_13 (v := 0) (by decide) ?_
    refine r_put f q dX3_clearRegisters_14 (nI_clamp (by omega)) (vp_in_nI (by omega) (by decide)) (fun h1 f1 q1 => ?_)
    refine w_iinc (v := nI (n + 1)) dX3_clearRegisters_15 rfl (nI_1 n) (by decide) ?_
    refine w_goto (tgt := 2) dX3_clearRegisters_18 (by decide) ?_
    exact ih (n + 1) _ _ (by omega) f1 q1 k

set_option maxRecDepth 20000 in
set_option maxHeartbeats 4000000 in
/-- clearRegisters() -/
theorem T_clr {X : Nat × (Nat → Int32)} {h0 h : PH} {σ : MS} {Q : Option Value → PH → Prop} (f : Fm h0 h) (q : RC h σ) (k : ∀ h', Fm h0 h' → RC h' (clrS σ) → Q none h') : WP X mX3_clearRegisters 0 0 0 (en 2 [.ref 13]) [] h Q := by
  refine w_iconst dX3_clearRegisters_0 (v := 0) (by decide) ?_
  refine w_istore_n dX3_clearRegisters_1 rfl (by decide) ?_
  exact L_clr 8 0 _ _ rfl f q k

