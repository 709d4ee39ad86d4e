/-! THE REFERENCE: trap, does, step, run -/
def secM (τ : MS) (w : Int32) : Int32 := if w >>> ((5 : Int32) &&& 31) &&& 1 = 1 then sgM w 5 else τ.1 (w &&& 7).toNatClampNeg
def cb1 (τ : MS) : MS := sG (mgt τ (τ.1 6)) 8 (mlk τ (τ.1 6 &&& 65535))
def cb2 (τ : MS) : MS := sG (mgt τ (τ.1 6 + 1)) 9 (mlk τ (τ.1 6 + 1 &&& 65535) &&& 34567)
def cb3 (τ : MS) : MS := sG τ 6 (τ.1 6 + 2 &&& 65535)
def cb4 (τ : MS) : MS := sG (sG τ 10 (τ.1 6)) 6 ((sG τ 10 (τ.1 6)).1 11)
def mcb (τ : MS) : MS := if τ.1 9 < 32768 then (if (cb3 (cb2 (cb1 τ))).1 9 < 32768 then cb3 (cb2 (cb1 τ)) else cb4 (cb3 (cb2 (cb1 τ)))) else mex τ 0
def st1 (τ : MS) (w two : Int32) : MS := if two = 0 then sPm τ (w &&& 255) else if w >>> ((8 : Int32) &&& 31) = 0 then sPm τ (w &&& 255) else sPm (sPm τ (w &&& 255)) (w >>> ((8 : Int32) &&& 31))
def mst : Nat → MS → Int32 → Int32 → MS
  | 0, τ, _, _ => τ
  | m + 1, τ, two, a => if mlk τ a = 0 then τ else mst m (st1 τ (mlk τ a) two) two (a + 1 &&& 65535)
set_option maxRecDepth 20000 in
set_option maxHeartbeats 4000000 in
/-- second(w) -/
theorem T_msec {X : Nat × (Nat → Int32)} {h : PH} {τ : MS} {Q : Option Value → PH → Prop} {w : Int32} (q : RM h τ) (k : Q (some (.int (secM τ w))) h) : WP X mX11_second 1 22 0 (en 2 [.ref 25, .int w]) [] h Q := by
  refine w_iload_n dX11_second_0 rfl rfl ?_
  refine w_iconst dX11_second_1 (v := 5) (by decide) ?_
  refine w_ishr dX11_second_2 ?_
  refine w_iconst dX11_second_3 (v := 1) (by decide) ?_
  refine w_iand dX11_second_4 ?_
  refine w_iconst dX11_second_5 (v := 1) (by decide) ?_
  refine w_icmp_ne (tgt := 17) dX11_second_6 (by decide) (fun c_6 => ?_) (fun c_6 => ?_)
  · refine w_aload_n dX11_second_17 rfl rfl ?_
    refine w_gs (b := 27) q.1 dX11_second_18 fX11_14 (by decide) rfl rfl (by decide) ?_
    refine w_iload_n dX11_second_21 rfl rfl ?_
    refine w_bipush dX11_second_22 (v := 7) (by decide) ?_
    refine w_iand dX11_second_24 ?_
    refine g_get q dX11_second_25 rfl (in3 w) ?_
    refine w_iret dX11_second_26 (fun _ e => by cases e; rfl) ?_
    rw [secM, if_neg c_6] at k; exact k
  · refine w_iload_n dX11_second_9 rfl rfl ?_
    refine w_iconst dX11_second_10 (v := 5) (by decide) ?_
    refine w_s2 (d2 := 0) (L2 := 0) dX11_second_11 vX11_154 rfl rfl (by decide) (Nat.le_of_ble_eq_true rfl) (by decide) (by decide) ?_
    refine T_sgM ?_
    refine k_i rfl ?_
    refine w_goto (tgt := 26) dX11_second_14 (by decide) ?_
    refine w_iret dX11_second_26 (fun _ e => by cases e; rfl) ?_
    rw [secM, if_pos c_6] at k; exact k

set_option maxRecDepth 20000 in
set_option maxHeartbeats 4000000 in
/-- comesBack() -/
theorem T_mcb {X : Nat × (Nat → Int32)} {h0 h : PH} {τ : MS} {Q : Option Value → PH → Prop} (f : FR h0 h) (q : RM h τ) (k : ∀ h', FR h0 h' → RM h' (mcb τ) → Q none h') : WP X mX11_comesBack 4 86 0 (en 1 [.ref 25]) [] h Q := by
  refine w_aload_n dX11_comesBack_0 rfl rfl ?_
  refine w_v0 (d2 := 0) (L2 := 0) dX11_comesBack_1 vX11_113 rfl (q.1.lt (by decide)) (by decide) (Nat.le_of_ble_eq_true rfl) (by decide) (by decide) ?_
  refine T_user q (fun c_u => ?_) (fun c_u => ?_)
  · refine k_i rfl ?_
    refine w_if_eq (tgt := 13) dX11_comesBack_4 (by decide) (fun c_4 => ?_) (fun c_4 => absurd c_4 (by decide))
    refine w_aload_n dX11_comesBack_13 rfl rfl ?_
    refine w_aload_n dX11_comesBack_14 rfl rfl ?_
    refine w_aload_n dX11_comesBack_15 rfl rfl ?_
    refine w_gs (b := 27) q.1 dX11_comesBack_16 fX11_14 (by decide) rfl rfl (by decide) ?_
    refine w_bipush dX11_comesBack_19 (v := 6) (by decide) ?_
    refine g_get (k := 6) q dX11_comesBack_21 (by decide) (vin (by decide)) ?_
    refine w_v1 (d2 := 1) (L2 := 22) dX11_comesBack_22 vX11_124 rfl (q.1.lt (by decide)) rfl (by decide) (Nat.le_of_ble_eq_true rfl) (by decide) (by decide) ?_
    refine T_mget f q (fun h1 f1 q1 => ?_)
    refine k_i rfl ?_
    refine y_put (j := 8) f1 q1 dX11_comesBack_25 fX11_57 (by decide) rfl (fun h2 f2 q2 => ?_)
    refine w_aload_n dX11_comesBack_28 rfl rfl ?_
    refine w_aload_n dX11_comesBack_29 rfl rfl ?_
    refine w_aload_n dX11_comesBack_30 rfl rfl ?_
    refine w_gs (b := 27) q2.1 dX11_comesBack_31 fX11_14 (by decide) rfl rfl (by decide) ?_
    refine w_bipush dX11_comesBack_34 (v := 6) (by decide) ?_
    refine g_get (k := 6) q2 dX11_comesBack_36 (by decide) (vin (by decide)) ?_
    refine w_iconst dX11_comesBack_37 (v := 1) (by decide) ?_
    refine w_iadd dX11_comesBack_38 ?_
    refine w_v1 (d2 := 1) (L2 := 22) dX11_comesBack_39 vX11_124 rfl (q2.1.lt (by decide)) rfl (by decide) (Nat.le_of_ble_eq_true rfl) (by decide) (by decide) ?_
    refine T_mget f2 q2 (fun h3 f3 q3 => ?_)
    refine k_i rfl ?_
    refine w_ldc dX11_comesBack_42 kX11_173 ?_
    refine w_iand dX11_comesBack_44 ?_
    refine y_put (j := 9) f3 q3 dX11_comesBack_45 fX11_64 (by decide) rfl (fun h4 f4 q4 => ?_)
    refine w_aload_n dX11_comesBack_48 rfl rfl ?_
    refine w_gs (b := 27) q4.1 dX11_comesBack_49 fX11_14 (by decide) rfl rfl (by decide) ?_
    refine w_bipush dX11_comesBack_52 (v := 6) (by decide) ?_
    refine w_aload_n dX11_comesBack_54 rfl rfl ?_
    refine w_gs (b := 27) q4.1 dX11_comesBack_55 fX11_14 (by decide) rfl rfl (by decide) ?_
    refine w_bipush dX11_comesBack_58 (v := 6) (by decide) ?_
    refine g_get (k := 6) q4 dX11_comesBack_60 (by decide) (vin (by decide)) ?_
    refine w_iconst dX11_comesBack_61 (v := 2) (by decide) ?_
    refine w_iadd dX11_comesBack_62 ?_
    refine w_s1 (d2 := 0) (L2 := 0) dX11_comesBack_63 vX11_93 rfl (by decide) (Nat.le_of_ble_eq_true rfl) (by decide) (by decide) ?_
    refine T_cut ?_
    refine k_i rfl ?_
    refine g_put (k := 6) f4 q4 dX11_comesBack_66 (by decide) (vin (by decide)) (fun h5 f5 q5 => ?_)
    refine w_aload_n dX11_comesBack_67 rfl rfl ?_
    refine w_v0 (d2 := 0) (L2 := 0) dX11_comesBack_68 vX11_113 rfl (q5.1.lt (by decide)) (by decide) (Nat.le_of_ble_eq_true rfl) (by decide) (by decide) ?_
    refine T_user q5 (fun c_u5 => ?_) (fun c_u5 => ?_)
    · refine k_i rfl ?_
      refine w_if_eq (tgt := 96) dX11_comesBack_71 (by decide) (fun c_71 => ?_) (fun c_71 => absurd c_71 (by decide))
      refine w_vret dX11_comesBack_96 ?_
      rw [mcb, if_pos c_u, if_pos (show (cb3 (cb2 (cb1 τ))).1 9 < 32768 from c_u5)] at k; exact k _ f5 q5
    · refine k_i rfl ?_
      refine w_if_eq (tgt := 96) dX11_comesBack_71 (by decide) (fun c_71 => absurd c_71 (by decide)) (fun c_71 => ?_)
      refine w_aload_n dX11_comesBack_74 rfl rfl ?_
      refine w_aload_n dX11_comesBack_75 rfl rfl ?_
      refine w_gs (b := 27) q5.1 dX11_comesBack_76 fX11_14 (by decide) rfl rfl (by decide) ?_
      refine w_bipush dX11_comesBack_79 (v := 6) (by decide) ?_
      refine g_get (k := 6) q5 dX11_comesBack_81 (by decide) (vin (by decide)) ?_
      refine y_put (j := 10) f5 q5 dX11_comesBack_82 fX11_67 (by decide) rfl (fun h6 f6 q6 => ?_)
      refine w_aload_n dX11_comesBack_85 rfl rfl ?_
      refine w_gs (b := 27) q6.1 dX11_comesBack_86 fX11_14 (by decide) rfl rfl (by decide) ?_
      refine w_bipush dX11_comesBack_89 (v := 6) (by decide) ?_
      refine w_aload_n dX11_comesBack_91 rfl rfl ?_
      refine y_get (j := 11) q6 dX11_comesBack_92 fX11_71 (by decide) rfl ?_
      refine g_put (k := 6) f6 q6 dX11_comesBack_95 (by decide) (vin (by decide)) (fun h7 f7 q7 => ?_)
      refine w_vret dX11_comesBack_96 ?_
      rw [mcb, if_pos c_u, if_neg (show ¬ (cb3 (cb2 (cb1 τ))).1 9 < 32768 from c_u5)] at k; exact k _ f7 q7
  · refine k_i rfl ?_
    refine w_if_eq (tgt := 13) dX11_comesBack_4 (by decide) (fun c_4 => absurd c_4 (by decide)) (fun c_4 => ?_)
    refine w_aload_n dX11_comesBack_7 rfl rfl ?_
    refine w_iconst dX11_comesBack_8 (v := 0) (by decide) ?_
    refine w_v1 (d2 := 3) (L2 := 65) dX11_comesBack_9 vX11_151 rfl (q.1.lt (by decide)) rfl (by decide) (Nat.le_of_ble_eq_true rfl) (by decide) (by decide) ?_
    refine T_mex f q (fun h8 f8 q8 => ?_)
    refine k_v rfl ?_
    refine w_vret dX11_comesBack_12 ?_
    rw [mcb, if_neg c_u] at k; exact k _ f8 q8

set_option maxRecDepth 20000 in
set_option maxHeartbeats 4000000 in
theorem L_str {X : Nat × (Nat → Int32)} {h0 : PH} {Q : Option Value → PH → Prop} {two : Int32} : ∀ (m n : Nat) (a : Int32) (h : PH) (τ : MS) (t : Option Value), vp_in a 65536 → n + m = 4096 → FR h0 h → RM h τ → (∀ h', FR h0 h' → RM h' (mst m τ two a) → Q none h') → WP X mX11_string 1 21 9 [some (.ref 25), some (.int two), some (.int (nI n)), some (.int a), t] [] h Q := by
  intro m
  induction m with
  | zero =>
    intro n a h τ t ha hn f q k
    obtain rfl : n = 4096 := by omega
    refine w_iload_n dX11_string_9 rfl rfl ?_
    refine w_sipush dX11_string_10 (v := 4096) (by decide) ?_
    refine w_icmp_ge (tgt := 75) dX11_string_13 (by decide) (fun c_13 => ?_) (fun c_13 => absurd c_13 (not_not_intro (show (4096 : Int32) ≤ nI 4096 from by decide)))
    refine w_vret dX11_string_75 ?_
    exact k _ f q
  | succ m ih =>
    intro n a h τ t ha hn f q k
    refine w_iload_n dX11_string_9 rfl rfl ?_
    refine w_sipush dX11_string_10 (v := 4096) (by decide) ?_
    refine w_icmp_ge (tgt := 75) dX11_string_13 (by decide) (fun c_13 => absurd c_13 (show ¬ (4096 : Int32) ≤ nI n from nI_ge (a := n) (b := 4096) (by omega) (by decide))) (fun c_13 => ?_)
    refine w_aload_n dX11_string_16 rfl rfl ?_
    refine w_iload_n dX11_string_17 rfl rfl ?_
    refine w_v1 (d2 := 0) (L2 := 0) dX11_string_18 vX11_97 rfl (q.1.lt (by decide)) rfl (by decide) (Nat.le_of_ble_eq_true rfl) (by decide) (by decide) ?_
    refine T_seen ha q ?_
    refine k_i rfl ?_
    refine w_if_eq (tgt := 75) dX11_string_21 (by decide) (fun c_21 => ?_) (fun c_21 => ?_)
    · refine w_vret dX11_string_75 ?_
      exact k _ f (by rw [mst, if_pos c_21]; exact q)
    · refine w_aload_n dX11_string_24 rfl rfl ?_
      refine w_iload_n dX11_string_25 rfl rfl ?_
      refine w_v1 (d2 := 0) (L2 := 0) dX11_string_26 vX11_97 rfl (q.1.lt (by decide)) rfl (by decide) (Nat.le_of_ble_eq_true rfl) (by decide) (by decide) ?_
      refine T_seen ha q ?_
      refine k_i rfl ?_
      refine w_istore dX11_string_29 (by decide) ?_
      refine w_aload_n dX11_string_31 rfl rfl ?_
      refine w_iload dX11_string_32 rfl ?_
      refine w_sipush dX11_string_34 (v := 255) (by decide) ?_
      refine w_iand dX11_string_37 ?_
      refine w_v1 (d2 := 0) (L2 := 0) dX11_string_38 vX11_104 rfl (q.1.lt (by decide)) rfl (by decide) (Nat.le_of_ble_eq_true rfl) (by decide) (by decide) ?_
      refine T_mprints f q (fun h1 f1 q1 => ?_)
      refine k_v rfl ?_
      refine w_iload_n dX11_string_41 rfl rfl ?_
      refine w_if_eq (tgt := 62) dX11_string_42 (by decide) (fun c_42 => ?_) (fun c_42 => ?_)
      · refine w_iload_n dX11_string_62 rfl rfl ?_
        refine w_iconst dX11_string_63 (v := 1) (by decide) ?_
        refine w_iadd dX11_string_64 ?_
        refine w_s1 (d2 := 0) (L2 := 0) dX11_string_65 vX11_93 rfl (by decide) (Nat.le_of_ble_eq_true rfl) (by decide) (by decide) ?_
        refine T_cut ?_
        refine k_i rfl ?_
        refine w_istore_n dX11_string_68 rfl (by decide) ?_
        refine w_iinc (v := nI (n + 1)) dX11_string_69 rfl (nI_1 n) (by decide) ?_
        refine w_goto (tgt := 9) dX11_string_72 (by decide) ?_
        exact ih (n + 1) _ _ _ _ (in16 _) (by omega) f1 q1 (fun h' g r => k h' g (by rw [mst, if_neg c_21, st1, if_pos c_42]; exact r))
      · refine w_iload dX11_string_45 rfl ?_
        refine w_bipush dX11_string_47 (v := 8) (by decide) ?_
        refine w_ishr dX11_string_49 ?_
        refine w_if_eq (tgt := 62) dX11_string_50 (by decide) (fun c_50 => ?_) (fun c_50 => ?_)
        · refine w_iload_n dX11_string_62 rfl rfl ?_
          refine w_iconst dX11_string_63 (v := 1) (by decide) ?_
          refine w_iadd dX11_string_64 ?_
          refine w_s1 (d2 := 0) (L2 := 0) dX11_string_65 vX11_93 rfl (by decide) (Nat.le_of_ble_eq_true rfl) (by decide) (by decide) ?_
          refine T_cut ?_
          refine k_i rfl ?_
          refine w_istore_n dX11_string_68 rfl (by decide) ?_
          refine w_iinc (v := nI (n + 1)) dX11_string_69 rfl (nI_1 n) (by decide) ?_
          refine w_goto (tgt := 9) dX11_string_72 (by decide) ?_
          exact ih (n + 1) _ _ _ _ (in16 _) (by omega) f1 q1 (fun h' g r => k h' g (by rw [mst, if_neg c_21, st1, if_neg c_42, if_pos c_50]; exact r))
        · refine w_aload_n dX11_string_53 rfl rfl ?_
          refine w_iload dX11_string_54 rfl ?_
          refine w_bipush dX11_string_56 (v := 8) (by decide) ?_
          refine w_ishr dX11_string_58 ?_
          refine w_v1 (d2 := 0) (L2 := 0) dX11_string_59 vX11_104 rfl (q1.1.lt (by decide)) rfl (by decide) (Nat.le_of_ble_eq_true rfl) (by decide) (by decide) ?_
          refine T_mprints f1 q1 (fun h2 f2 q2 => ?_)
          refine k_v rfl ?_
          refine w_iload_n dX11_string_62 rfl rfl ?_
          refine w_iconst dX11_string_63 (v := 1) (by decide) ?_
          refine w_iadd dX11_string_64 ?_
          refine w_s1 (d2 := 0) (L2 := 0) dX11_string_65 vX11_93 rfl (by decide) (Nat.le_of_ble_eq_true rfl) (by decide) (by decide) ?_
          refine T_cut ?_
          refine k_i rfl ?_
          refine w_istore_n dX11_string_68 rfl (by decide) ?_
          refine w_iinc (v := nI (n + 1)) dX11_string_69 rfl (nI_1 n) (by decide) ?_
          refine w_goto (tgt := 9) dX11_string_72 (by decide) ?_
          exact ih (n + 1) _ _ _ _ (in16 _) (by omega) f2 q2 (fun h' g r => k h' g (by rw [mst, if_neg c_21, st1, if_neg c_42, if_neg c_50]; exact r))

set_option maxRecDepth 20000 in
set_option maxHeartbeats 4000000 in
/-- string(two) -/
theorem T_mstr {X : Nat × (Nat → Int32)} {h0 h : PH} {τ : MS} {Q : Option Value → PH → Prop} {two : Int32} (h0r : vp_in (τ.1 0) 65536) (f : FR h0 h) (q : RM h τ) (k : ∀ h', FR h0 h' → RM h' (mst 4096 τ two (τ.1 0)) → Q none h') : WP X mX11_string 1 21 0 (en 5 [.ref 25, .int two]) [] h Q := by
  refine w_iconst dX11_string_0 (v := 0) (by decide) ?_
  refine w_istore_n dX11_string_1 rfl (by decide) ?_
  refine w_aload_n dX11_string_2 rfl rfl ?_
  refine w_gs (b := 27) q.1 dX11_string_3 fX11_14 (by decide) rfl rfl (by decide) ?_
  refine w_iconst dX11_string_6 (v := 0) (by decide) ?_
  refine g_get (k := 0) q dX11_string_7 (by decide) (vin (by decide)) ?_
  refine w_istore_n dX11_string_8 rfl (by decide) ?_
  exact L_str 4096 0 _ _ _ _ h0r rfl f q k

def mtk (τ : MS) (v at0 : Int32) : MS := match τ.2.2.1 with
  | [] => sG (sG τ 8 at0) 12 2
  | k :: t => if v = 35 then sPm (sG (sK τ t) 0 k) ((sG (sK τ t) 0 k).1 0) else sG (sK τ t) 0 k
def mgi (τ : MS) (v : Int32) : MS := sG (mgt (mgo (sG τ 19 (τ.1 19 + 1))) v) 8 (mlk (mgo (sG τ 19 (τ.1 19 + 1))) (v &&& 65535))
def mtr (τ : MS) (v at0 : Int32) : MS := if τ.2.1 v.toNatClampNeg = 0 then (if v = 32 then mtk τ v at0 else if v = 35 then mtk τ v at0 else if v = 33 then sPm τ (τ.1 0 &&& 255) else if v = 34 then mst 4096 τ 0 (τ.1 0) else if v = 36 then mst 4096 τ 1 (τ.1 0) else if v = 37 then sG τ 12 1 else mex τ 1) else mgi τ v
theorem mtk_n {τ : MS} {v at0 : Int32} (e : τ.2.2.1 = []) : mtk τ v at0 = sG (sG τ 8 at0) 12 2 := by unfold mtk; rw [e]
theorem mtk_c {τ : MS} {v at0 k : Int32} {t : List Int32} (e : τ.2.2.1 = k :: t) : mtk τ v at0 = if v = 35 then sPm (sG (sK τ t) 0 k) ((sG (sK τ t) 0 k).1 0) else sG (sK τ t) 0 k := by unfold mtk; rw [e]
set_option maxRecDepth 20000 in
set_option maxHeartbeats 4000000 in
/-- trap(v, at) -/
theorem T_mtr {X : Nat × (Nat → Int32)} {h0 h : PH} {τ : MS} {Q : Option Value → PH → Prop} {v at0 : Int32} (hv : vp_in v 65536) (h0r : vp_in (τ.1 0) 65536) (f : FR h0 h) (q : RM h τ) (k : ∀ h', FR h0 h' → RM h' (mtr τ v at0) → Q none h') : WP X mX11_trap 4 86 0 (en 3 [.ref 25, .int v, .int at0]) [] h Q := by
  refine w_aload_n dX11_trap_0 rfl rfl ?_
  refine w_gs (b := 26) q.1 dX11_trap_1 fX11_8 (by decide) rfl rfl (by decide) ?_
  refine w_iload_n dX11_trap_4 rfl rfl ?_
  refine e_get q dX11_trap_5 hv ?_
  refine w_if_eq (tgt := 33) dX11_trap_6 (by decide) (fun c_6 => ?_) (fun c_6 => ?_)
  · refine w_iload_n dX11_trap_33 rfl rfl ?_
    refine w_bipush dX11_trap_34 (v := 32) (by decide) ?_
    refine w_icmp_eq (tgt := 45) dX11_trap_36 (by decide) (fun c_36 => ?_) (fun c_36 => ?_)
    · refine w_aload_n dX11_trap_45 rfl rfl ?_
      refine w_gi q.1 dX11_trap_46 fX11_84 rfl rfl (by decide) ?_
      refine w_if_ne (tgt := 63) dX11_trap_49 (by decide) (fun c_49 => ?_) (fun c_49 => ?_)
      · refine w_aload_n dX11_trap_63 rfl rfl ?_
        refine w_gs (b := 27) q.1 dX11_trap_64 fX11_14 (by decide) rfl rfl (by decide) ?_
        refine w_iconst dX11_trap_67 (v := 0) (by decide) ?_
        refine w_aload_n dX11_trap_68 rfl rfl ?_
        refine w_v0 (d2 := 0) (L2 := 0) dX11_trap_69 vX11_100 rfl (q.1.lt (by decide)) (by decide) (Nat.le_of_ble_eq_true rfl) (by decide) (by decide) ?_
        have ne : τ.2.2.1 ≠ [] := fun z => c_49 ((km_z q).mpr z)
        obtain ⟨k9, t9, ek⟩ := List.exists_cons_of_ne_nil ne
        refine T_mtake (k0 := k9) (t := t9) ek f q (fun h1 f1 q1 => ?_)
        refine k_i rfl ?_
        refine g_put (k := 0) f1 q1 dX11_trap_72 (by decide) (vin (by decide)) (fun h2 f2 q2 => ?_)
        refine w_iload_n dX11_trap_73 rfl rfl ?_
        refine w_bipush dX11_trap_74 (v := 35) (by decide) ?_
        refine w_icmp_ne (tgt := 164) dX11_trap_76 (by decide) (fun c_76 => ?_) (fun c_76 => absurd c_76 (by rw [c_36]; decide))
        refine w_vret dX11_trap_164 ?_
        rw [mtr] at k; simp only [if_pos c_6, if_pos c_36, if_neg c_49, if_neg c_76] at k; rw [mtk_c ek, if_neg c_76] at k; exact k _ f2 q2
      · refine w_aload_n dX11_trap_52 rfl rfl ?_
        refine w_iload_n dX11_trap_53 rfl rfl ?_
        refine y_put (j := 8) f q dX11_trap_54 fX11_57 (by decide) rfl (fun h3 f3 q3 => ?_)
        refine w_aload_n dX11_trap_57 rfl rfl ?_
        refine w_iconst dX11_trap_58 (v := 2) (by decide) ?_
        refine y_put (j := 12) f3 q3 dX11_trap_59 fX11_74 (by decide) rfl (fun h4 f4 q4 => ?_)
        refine w_vret dX11_trap_62 ?_
        rw [mtr] at k; simp only [if_pos c_6, if_pos c_36, if_pos c_49] at k; rw [mtk_n ((km_z q).mp c_49)] at k; exact k _ f4 q4
    · refine w_iload_n dX11_trap_39 rfl rfl ?_
      refine w_bipush dX11_trap_40 (v := 35) (by decide) ?_
      refine w_icmp_ne (tgt := 92) dX11_trap_42 (by decide) (fun c_42 => ?_) (fun c_42 => ?_)
      · refine w_iload_n dX11_trap_92 rfl rfl ?_
        refine w_bipush dX11_trap_93 (v := 33) (by decide) ?_
        refine w_icmp_ne (tgt := 115) dX11_trap_95 (by decide) (fun c_95 => ?_) (fun c_95 => ?_)
        · refine w_iload_n dX11_trap_115 rfl rfl ?_
          refine w_bipush dX11_trap_116 (v := 34) (by decide) ?_
          refine w_icmp_eq (tgt := 127) dX11_trap_118 (by decide) (fun c_118 => ?_) (fun c_118 => ?_)
          · refine w_aload_n dX11_trap_127 rfl rfl ?_
            refine w_iload_n dX11_trap_128 rfl rfl ?_
            refine w_bipush dX11_trap_129 (v := 36) (by decide) ?_
            refine w_icmp_ne (tgt := 138) dX11_trap_131 (by decide) (fun c_131 => ?_) (fun c_131 => absurd c_131 (by rw [c_118]; decide))
            refine w_iconst dX11_trap_138 (v := 0) (by decide) ?_
            refine w_v1 (d2 := 1) (L2 := 21) dX11_trap_139 vX11_177 rfl (q.1.lt (by decide)) rfl (by decide) (Nat.le_of_ble_eq_true rfl) (by decide) (by decide) ?_
            refine T_mstr h0r f q (fun h5 f5 q5 => ?_)
            refine k_v rfl ?_
            refine w_goto (tgt := 164) dX11_trap_142 (by decide) ?_
            refine w_vret dX11_trap_164 ?_
            rw [mtr] at k; simp only [if_pos c_6, if_neg c_36, if_neg c_42, if_neg c_95, if_pos c_118, if_neg c_131] at k; exact k _ f5 q5
          · refine w_iload_n dX11_trap_121 rfl rfl ?_
            refine w_bipush dX11_trap_122 (v := 36) (by decide) ?_
            refine w_icmp_ne (tgt := 145) dX11_trap_124 (by decide) (fun c_124 => ?_) (fun c_124 => ?_)
            · refine w_iload_n dX11_trap_145 rfl rfl ?_
              refine w_bipush dX11_trap_146 (v := 37) (by decide) ?_
              refine w_icmp_ne (tgt := 159) dX11_trap_148 (by decide) (fun c_148 => ?_) (fun c_148 => ?_)
              · refine w_aload_n dX11_trap_159 rfl rfl ?_
                refine w_iconst dX11_trap_160 (v := 1) (by decide) ?_
                refine w_v1 (d2 := 3) (L2 := 65) dX11_trap_161 vX11_151 rfl (q.1.lt (by decide)) rfl (by decide) (Nat.le_of_ble_eq_true rfl) (by decide) (by decide) ?_
                refine T_mex f q (fun h6 f6 q6 => ?_)
                refine k_v rfl ?_
                refine w_vret dX11_trap_164 ?_
                rw [mtr] at k; simp only [if_pos c_6, if_neg c_36, if_neg c_42, if_neg c_95, if_neg c_118, if_neg c_124, if_neg c_148] at k; exact k _ f6 q6
              · refine w_aload_n dX11_trap_151 rfl rfl ?_
                refine w_iconst dX11_trap_152 (v := 1) (by decide) ?_
                refine y_put (j := 12) f q dX11_trap_153 fX11_74 (by decide) rfl (fun h7 f7 q7 => ?_)
                refine w_goto (tgt := 164) dX11_trap_156 (by decide) ?_
                refine w_vret dX11_trap_164 ?_
                rw [mtr] at k; simp only [if_pos c_6, if_neg c_36, if_neg c_42, if_neg c_95, if_neg c_118, if_neg c_124, if_pos c_148] at k; exact k _ f7 q7
            · refine w_aload_n dX11_trap_127 rfl rfl ?_
              refine w_iload_n dX11_trap_128 rfl rfl ?_
              refine w_bipush dX11_trap_129 (v := 36) (by decide) ?_
              refine w_icmp_ne (tgt := 138) dX11_trap_131 (by decide) (fun c_131 => absurd c_131 (not_not_intro c_124)) (fun c_131 => ?_)
              refine w_iconst dX11_trap_134 (v := 1) (by decide) ?_
              refine w_goto (tgt := 139) dX11_trap_135 (by decide) ?_
              refine w_v1 (d2 := 1) (L2 := 21) dX11_trap_139 vX11_177 rfl (q.1.lt (by decide)) rfl (by decide) (Nat.le_of_ble_eq_true rfl) (by decide) (by decide) ?_
              refine T_mstr h0r f q (fun h8 f8 q8 => ?_)
              refine k_v rfl ?_
              refine w_goto (tgt := 164) dX11_trap_142 (by decide) ?_
              refine w_vret dX11_trap_164 ?_
              rw [mtr] at k; simp only [if_pos c_6, if_neg c_36, if_neg c_42, if_neg c_95, if_neg c_118, if_pos c_124, if_pos c_131] at k; exact k _ f8 q8
        · refine w_aload_n dX11_trap_98 rfl rfl ?_
          refine w_aload_n dX11_trap_99 rfl rfl ?_
          refine w_gs (b := 27) q.1 dX11_trap_100 fX11_14 (by decide) rfl rfl (by decide) ?_
          refine w_iconst dX11_trap_103 (v := 0) (by decide) ?_
          refine g_get (k := 0) q dX11_trap_104 (by decide) (vin (by decide)) ?_
          refine w_sipush dX11_trap_105 (v := 255) (by decide) ?_
          refine w_iand dX11_trap_108 ?_
          refine w_v1 (d2 := 0) (L2 := 0) dX11_trap_109 vX11_104 rfl (q.1.lt (by decide)) rfl (by decide) (Nat.le_of_ble_eq_true rfl) (by decide) (by decide) ?_
          refine T_mprints f q (fun h9 f9 q9 => ?_)
          refine k_v rfl ?_
          refine w_goto (tgt := 164) dX11_trap_112 (by decide) ?_
          refine w_vret dX11_trap_164 ?_
          rw [mtr] at k; simp only [if_pos c_6, if_neg c_36, if_neg c_42, if_pos c_95] at k; exact k _ f9 q9
      · refine w_aload_n dX11_trap_45 rfl rfl ?_
        refine w_gi q.1 dX11_trap_46 fX11_84 rfl rfl (by decide) ?_
        refine w_if_ne (tgt := 63) dX11_trap_49 (by decide) (fun c_49 => ?_) (fun c_49 => ?_)
        · refine w_aload_n dX11_trap_63 rfl rfl ?_
          refine w_gs (b := 27) q.1 dX11_trap_64 fX11_14 (by decide) rfl rfl (by decide) ?_
          refine w_iconst dX11_trap_67 (v := 0) (by decide) ?_
          refine w_aload_n dX11_trap_68 rfl rfl ?_
          refine w_v0 (d2 := 0) (L2 := 0) dX11_trap_69 vX11_100 rfl (q.1.lt (by decide)) (by decide) (Nat.le_of_ble_eq_true rfl) (by decide) (by decide) ?_
          have ne : τ.2.2.1 ≠ [] := fun z => c_49 ((km_z q).mpr z)
          obtain ⟨k9, t9, ek⟩ := List.exists_cons_of_ne_nil ne
          refine T_mtake (k0 := k9) (t := t9) ek f q (fun h10 f10 q10 => ?_)
          refine k_i rfl ?_
          refine g_put (k := 0) f10 q10 dX11_trap_72 (by decide) (vin (by decide)) (fun h11 f11 q11 => ?_)
          refine w_iload_n dX11_trap_73 rfl rfl ?_
          refine w_bipush dX11_trap_74 (v := 35) (by decide) ?_
          refine w_icmp_ne (tgt := 164) dX11_trap_76 (by decide) (fun c_76 => absurd c_76 (not_not_intro c_42)) (fun c_76 => ?_)
          refine w_aload_n dX11_trap_79 rfl rfl ?_
          refine w_aload_n dX11_trap_80 rfl rfl ?_
          refine w_gs (b := 27) q11.1 dX11_trap_81 fX11_14 (by decide) rfl rfl (by decide) ?_
          refine w_iconst dX11_trap_84 (v := 0) (by decide) ?_
          refine g_get (k := 0) q11 dX11_trap_85 (by decide) (vin (by decide)) ?_
          refine w_v1 (d2 := 0) (L2 := 0) dX11_trap_86 vX11_104 rfl (q11.1.lt (by decide)) rfl (by decide) (Nat.le_of_ble_eq_true rfl) (by decide) (by decide) ?_
          refine T_mprints f11 q11 (fun h12 f12 q12 => ?_)
          refine k_v rfl ?_
          refine w_goto (tgt := 164) dX11_trap_89 (by decide) ?_
          refine w_vret dX11_trap_164 ?_
          rw [mtr] at k; simp only [if_pos c_6, if_neg c_36, if_pos c_42, if_neg c_49, if_pos c_76] at k; rw [mtk_c ek, if_pos c_76] at k; exact k _ f12 q12
        · refine w_aload_n dX11_trap_52 rfl rfl ?_
          refine w_iload_n dX11_trap_53 rfl rfl ?_
          refine y_put (j := 8) f q dX11_trap_54 fX11_57 (by decide) rfl (fun h13 f13 q13 => ?_)
          refine w_aload_n dX11_trap_57 rfl rfl ?_
          refine w_iconst dX11_trap_58 (v := 2) (by decide) ?_
          refine y_put (j := 12) f13 q13 dX11_trap_59 fX11_74 (by decide) rfl (fun h14 f14 q14 => ?_)
          refine w_vret dX11_trap_62 ?_
          rw [mtr] at k; simp only [if_pos c_6, if_neg c_36, if_pos c_42, if_pos c_49] at k; rw [mtk_n ((km_z q).mp c_49)] at k; exact k _ f14 q14
  · refine w_aload_n dX11_trap_9 rfl rfl ?_
    refine w_dup dX11_trap_10 rfl ?_
    refine y_get (j := 19) q dX11_trap_11 fX11_174 (by decide) rfl ?_
    refine w_iconst dX11_trap_14 (v := 1) (by decide) ?_
    refine w_iadd dX11_trap_15 ?_
    refine y_put (j := 19) f q dX11_trap_16 fX11_174 (by decide) rfl (fun h15 f15 q15 => ?_)
    refine w_aload_n dX11_trap_19 rfl rfl ?_
    refine w_v0 (d2 := 2) (L2 := 44) dX11_trap_20 vX11_135 rfl (q15.1.lt (by decide)) (by decide) (Nat.le_of_ble_eq_true rfl) (by decide) (by decide) ?_
    refine T_goIn f15 q15 (fun h16 f16 q16 => ?_)
    refine k_v rfl ?_
    refine w_aload_n dX11_trap_23 rfl rfl ?_
    refine w_aload_n dX11_trap_24 rfl rfl ?_
    refine w_iload_n dX11_trap_25 rfl rfl ?_
    refine w_v1 (d2 := 1) (L2 := 22) dX11_trap_26 vX11_124 rfl (q16.1.lt (by decide)) rfl (by decide) (Nat.le_of_ble_eq_true rfl) (by decide) (by decide) ?_
    refine T_mget f16 q16 (fun h17 f17 q17 => ?_)
    refine k_i rfl ?_
    refine y_put (j := 8) f17 q17 dX11_trap_29 fX11_57 (by decide) rfl (fun h18 f18 q18 => ?_)
    refine w_vret dX11_trap_32 ?_
    rw [mtr, mgi] at k; simp only [if_neg c_6] at k; exact k _ f18 q18

