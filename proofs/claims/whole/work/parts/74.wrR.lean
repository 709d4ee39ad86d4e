/-! THE REFERENCE's write(): the rest -/
theorem hx_255 {n : Nat} (hn : n < 65536) : hx2 (nI (n % 256)) = hx2 (nI n) := by
  have e1 : nI (n % 256) >>> (((4 : Int32) * 1) &&& 31) &&& 15 = nI n >>> (((4 : Int32) * 1) &&& 31) &&& 15 := by
    rw [pk_shrN (by omega) _ 4 (by decide), pk_shrN (by omega) _ 4 (by decide), pk_andN (by omega) 4 (by decide), pk_andN (by omega) 4 (by decide)]
    congr 1; omega
  have e0 : nI (n % 256) >>> (((4 : Int32) * 0) &&& 31) &&& 15 = nI n >>> (((4 : Int32) * 0) &&& 31) &&& 15 := by
    rw [pk_shrN (by omega) _ 0 (by decide), pk_shrN (by omega) _ 0 (by decide), pk_andN (by omega) 4 (by decide), pk_andN (by omega) 4 (by decide)]
    congr 1; omega
  unfold hx2 hxD
  rw [e1, e0]
set_option maxRecDepth 20000 in
set_option maxHeartbeats 4000000 in
theorem T_iJp {X : Nat × (Nat → Int32)} {h0 h : PH} {Q : Option Value → PH → Prop} {L : List Int32} {n : Nat} (hn : n < 65536) (hl : L = []) (ho : n / 4096 = 4) (f : FW h0 h) (q : LW h L) (k1 : ∀ h', FW h0 h' → LW h' (lwT (dN n) (nI n)) → ¬ dN n = 36 → Q (some (.int 1)) h') (k0 : dN n = 36 → Q (some (.int 0)) h) : WP X mX11_isJump 5 108 0 (en 3 [.ref 25, .int (nI n)]) [] h Q := by
  subst hl
  refine w_iload_n dX11_isJump_0 rfl rfl ?_
  refine w_bipush dX11_isJump_1 (v := 11) (by decide) ?_
  refine w_ishr dX11_isJump_3 ?_
  refine w_iconst dX11_isJump_4 (v := 1) (by decide) ?_
  refine w_iand dX11_isJump_5 ?_
  refine w_iconst dX11_isJump_6 (v := 1) (by decide) ?_
  refine w_icmp_ne (tgt := 14) dX11_isJump_7 (by decide) (fun c_7 => ?_) (fun c_7 => ?_)
  · refine w_iconst dX11_isJump_14 (v := 0) (by decide) ?_
    refine w_istore_n dX11_isJump_15 rfl (by decide) ?_
    refine w_iload_n dX11_isJump_16 rfl rfl ?_
    refine w_if_ne (tgt := 30) dX11_isJump_17 (by decide) (fun c_17 => absurd c_17 (not_not_intro rfl)) (fun c_17 => ?_)
    refine w_iload_n dX11_isJump_20 rfl rfl ?_
    refine w_sipush dX11_isJump_21 (v := 3647) (by decide) ?_
    refine w_iand dX11_isJump_24 ?_
    refine w_if_eq (tgt := 30) dX11_isJump_25 (by decide) (fun c_25 => ?_) (fun c_25 => ?_)
    · rw [show (3647 : Int32) = nI 3647 from rfl, show (0 : Int32) = nI 0 from rfl, la_n hn (by decide) (by decide)] at c_25
      refine w_aload_n dX11_isJump_30 rfl rfl ?_
      refine w_iload_n dX11_isJump_31 rfl rfl ?_
      refine w_if_eq (tgt := 40) dX11_isJump_32 (by decide) (fun c_32 => ?_) (fun c_32 => absurd c_32 (not_not_intro rfl))
      refine w_bipush dX11_isJump_40 (v := 12) (by decide) ?_
      refine w_v1 (d2 := 4) (L2 := 85) dX11_isJump_42 vX11_372 rfl (q.1.lt (by decide)) rfl (by decide) (Nat.le_of_ble_eq_true rfl) (by decide) (by decide) ?_
      refine T_sayN (k9 := 12) (by decide) (Nat.le_of_ble_eq_true rfl) f q (fun h1 f1 q1 => ?_)
      refine k_v rfl ?_
      refine w_aload_n dX11_isJump_45 rfl rfl ?_
      refine w_bipush dX11_isJump_46 (v := 32) (by decide) ?_
      refine w_v1 (d2 := 0) (L2 := 0) dX11_isJump_48 vX11_366 rfl (q1.1.lt (by decide)) rfl (by decide) (Nat.le_of_ble_eq_true rfl) (by decide) (by decide) ?_
      refine T_say (Nat.le_of_ble_eq_true rfl) f1 q1 (fun h2 f2 q2 => ?_)
      refine k_v rfl ?_
      refine w_iload_n dX11_isJump_51 rfl rfl ?_
      refine w_if_eq (tgt := 68) dX11_isJump_52 (by decide) (fun c_52 => ?_) (fun c_52 => absurd c_52 (not_not_intro rfl))
      refine w_aload_n dX11_isJump_68 rfl rfl ?_
      refine w_iload_n dX11_isJump_69 rfl rfl ?_
      refine w_bipush dX11_isJump_70 (v := 6) (by decide) ?_
      refine w_ishr dX11_isJump_72 ?_
      refine w_bipush dX11_isJump_73 (v := 7) (by decide) ?_
      refine w_iand dX11_isJump_75 ?_
      refine w_v1 (d2 := 1) (L2 := 21) dX11_isJump_76 vX11_378 rfl (q2.1.lt (by decide)) rfl (by decide) (Nat.le_of_ble_eq_true rfl) (by decide) (by decide) ?_
      refine T_srg (Nat.le_of_ble_eq_true rfl) f2 q2 (fun h3 f3 q3 => ?_)
      refine k_v rfl ?_
      refine w_iconst dX11_isJump_79 (v := 1) (by decide) ?_
      refine w_iret dX11_isJump_80 (fun _ e => by cases e; decide) ?_
      have dk : dN n = 27 := by
        have b := (bt_2048 hn).2 c_7
        unfold dN; rw [sr_12, ho]
        show (bif Nat.beq (Nat.land n 2048) 2048 then 26 else bif Nat.beq (Nat.land n 3647) 0 then 27 else 36) = 27
        rw [b, c_25]; rfl
      rw [dk] at k1
      refine k1 _ f3 ?_ (by decide)
      rw [lw_27]
      simp only [List.append_assoc, List.nil_append, List.append_nil, List.cons_append] at q3 ⊢
      exact q3
    · rw [show (3647 : Int32) = nI 3647 from rfl, show (0 : Int32) = nI 0 from rfl, la_n hn (by decide) (by decide)] at c_25
      refine w_iconst dX11_isJump_28 (v := 0) (by decide) ?_
      refine w_iret dX11_isJump_29 (fun _ e => by cases e; decide) ?_
      refine k0 ?_
      have b := (bt_2048 hn).2 c_7
      unfold dN; rw [sr_12, ho]
      show (bif Nat.beq (Nat.land n 2048) 2048 then 26 else bif Nat.beq (Nat.land n 3647) 0 then 27 else 36) = 36
      rw [b, show Nat.beq (Nat.land n 3647) 0 = false from Bool.eq_false_iff.mpr (fun e => c_25 (Nat.eq_of_beq_eq_true e))]; rfl
  · refine w_iconst dX11_isJump_10 (v := 1) (by decide) ?_
    refine w_goto (tgt := 15) dX11_isJump_11 (by decide) ?_
    refine w_istore_n dX11_isJump_15 rfl (by decide) ?_
    refine w_iload_n dX11_isJump_16 rfl rfl ?_
    refine w_if_ne (tgt := 30) dX11_isJump_17 (by decide) (fun c_17 => ?_) (fun c_17 => absurd c_17 (by decide))
    refine w_aload_n dX11_isJump_30 rfl rfl ?_
    refine w_iload_n dX11_isJump_31 rfl rfl ?_
    refine w_if_eq (tgt := 40) dX11_isJump_32 (by decide) (fun c_32 => absurd c_32 (by decide)) (fun c_32 => ?_)
    refine w_bipush dX11_isJump_35 (v := 11) (by decide) ?_
    refine w_goto (tgt := 42) dX11_isJump_37 (by decide) ?_
    refine w_v1 (d2 := 4) (L2 := 85) dX11_isJump_42 vX11_372 rfl (q.1.lt (by decide)) rfl (by decide) (Nat.le_of_ble_eq_true rfl) (by decide) (by decide) ?_
    refine T_sayN (k9 := 11) (by decide) (Nat.le_of_ble_eq_true rfl) f q (fun h4 f4 q4 => ?_)
    refine k_v rfl ?_
    refine w_aload_n dX11_isJump_45 rfl rfl ?_
    refine w_bipush dX11_isJump_46 (v := 32) (by decide) ?_
    refine w_v1 (d2 := 0) (L2 := 0) dX11_isJump_48 vX11_366 rfl (q4.1.lt (by decide)) rfl (by decide) (Nat.le_of_ble_eq_true rfl) (by decide) (by decide) ?_
    refine T_say (Nat.le_of_ble_eq_true rfl) f4 q4 (fun h5 f5 q5 => ?_)
    refine k_v rfl ?_
    refine w_iload_n dX11_isJump_51 rfl rfl ?_
    refine w_if_eq (tgt := 68) dX11_isJump_52 (by decide) (fun c_52 => absurd c_52 (by decide)) (fun c_52 => ?_)
    refine w_aload_n dX11_isJump_55 rfl rfl ?_
    refine w_iload_n dX11_isJump_56 rfl rfl ?_
    refine w_bipush dX11_isJump_57 (v := 11) (by decide) ?_
    refine w_s2 (d2 := 0) (L2 := 0) dX11_isJump_59 vX11_154 rfl rfl (by decide) (Nat.le_of_ble_eq_true rfl) (by decide) (by decide) ?_
    refine T_sgM ?_
    refine k_i rfl ?_
    refine w_v1 (d2 := 1) (L2 := 21) dX11_isJump_62 vX11_384 rfl (q5.1.lt (by decide)) rfl (by decide) (Nat.le_of_ble_eq_true rfl) (by decide) (by decide) ?_
    refine T_snm (Nat.le_of_ble_eq_true rfl) f5 q5 (fun h6 f6 q6 => ?_)
    refine k_v rfl ?_
    refine w_goto (tgt := 79) dX11_isJump_65 (by decide) ?_
    refine w_iconst dX11_isJump_79 (v := 1) (by decide) ?_
    refine w_iret dX11_isJump_80 (fun _ e => by cases e; decide) ?_
    have dk : dN n = 26 := by
      have b := (bt_2048 hn).1 c_7
      unfold dN; rw [sr_12, ho]
      show (bif Nat.beq (Nat.land n 2048) 2048 then 26 else bif Nat.beq (Nat.land n 3647) 0 then 27 else 36) = 26
      rw [b]; rfl
    rw [dk] at k1
    refine k1 _ f6 ?_ (by decide)
    rw [lw_26, ← (nv_11 (nI n)).1, ← sg11]
    simp only [List.append_assoc, List.nil_append, List.append_nil, List.cons_append] at q6 ⊢
    exact q6

set_option maxRecDepth 20000 in
set_option maxHeartbeats 4000000 in
theorem T_iRe8 {X : Nat × (Nat → Int32)} {h0 h : PH} {Q : Option Value → PH → Prop} {L : List Int32} {n : Nat} (hn : n < 65536) (hl : L = []) (ho : n / 4096 = 8) (f : FW h0 h) (q : LW h L) (k1 : ∀ h', FW h0 h' → LW h' (lwT (dN n) (nI n)) → ¬ dN n = 36 → Q (some (.int 1)) h') (k0 : dN n = 36 → Q (some (.int 0)) h) : WP X mX11_isRest 6 130 0 (en 5 [.ref 25, .int (nI n)]) [] h Q := by
  subst hl
  refine w_iload_n dX11_isRest_0 rfl rfl ?_
  refine w_bipush dX11_isRest_1 (v := 12) (by decide) ?_
  refine w_ishr dX11_isRest_3 ?_
  rw [sh_12 hn, ho, show nI 8 = 8 from rfl]
  refine w_istore_n dX11_isRest_4 rfl (by decide) ?_
  refine w_iload_n dX11_isRest_5 rfl rfl ?_
  refine w_bipush dX11_isRest_6 (v := 8) (by decide) ?_
  refine w_icmp_ne (tgt := 25) dX11_isRest_8 (by decide) (fun c_8 => absurd c_8 (by decide)) (fun c_8 => ?_)
  refine w_iload_n dX11_isRest_11 rfl rfl ?_
  refine w_ldc dX11_isRest_12 kX11_88 ?_
  refine w_icmp_ne (tgt := 25) dX11_isRest_14 (by decide) (fun c_14 => ?_) (fun c_14 => ?_)
  · rw [show (32768 : Int32) = nI 32768 from rfl, nI_eq (by omega) (by decide)] at c_14
    refine w_iload_n dX11_isRest_25 rfl rfl ?_
    refine w_bipush dX11_isRest_26 (v := 9) (by decide) ?_
    refine w_icmp_ne (tgt := 48) dX11_isRest_28 (by decide) (fun c_28 => ?_) (fun c_28 => absurd c_28 (by decide))
    refine w_iload_n dX11_isRest_48 rfl rfl ?_
    refine w_bipush dX11_isRest_49 (v := 12) (by decide) ?_
    refine w_icmp_ne (tgt := 108) dX11_isRest_51 (by decide) (fun c_51 => ?_) (fun c_51 => absurd c_51 (by decide))
    refine w_iload_n dX11_isRest_108 rfl rfl ?_
    refine w_bipush dX11_isRest_109 (v := 15) (by decide) ?_
    refine w_icmp_ne (tgt := 122) dX11_isRest_111 (by decide) (fun c_111 => ?_) (fun c_111 => absurd c_111 (by decide))
    refine w_iconst dX11_isRest_122 (v := 0) (by decide) ?_
    refine w_iret dX11_isRest_123 (fun _ e => by cases e; decide) ?_
    refine k0 ?_
    unfold dN; rw [sr_12, ho]
    show (bif Nat.beq n 32768 then 28 else 36) = 36
    rw [show Nat.beq n 32768 = false from Bool.eq_false_iff.mpr (fun e => c_14 (Nat.eq_of_beq_eq_true e))]; rfl
  · rw [show (32768 : Int32) = nI 32768 from rfl, nI_eq (by omega) (by decide)] at c_14
    refine w_aload_n dX11_isRest_17 rfl rfl ?_
    refine w_bipush dX11_isRest_18 (v := 15) (by decide) ?_
    refine w_v1 (d2 := 4) (L2 := 85) dX11_isRest_20 vX11_372 rfl (q.1.lt (by decide)) rfl (by decide) (Nat.le_of_ble_eq_true rfl) (by decide) (by decide) ?_
    refine T_sayN (k9 := 15) (by decide) (Nat.le_of_ble_eq_true rfl) f q (fun h1 f1 q1 => ?_)
    refine k_v rfl ?_
    refine w_iconst dX11_isRest_23 (v := 1) (by decide) ?_
    refine w_iret dX11_isRest_24 (fun _ e => by cases e; decide) ?_
    have dk : dN n = 28 := by
      unfold dN; rw [sr_12, ho]
      show (bif Nat.beq n 32768 then 28 else 36) = 28
      rw [c_14]; rfl
    rw [dk] at k1
    refine k1 _ f1 ?_ (by decide)
    rw [lw_28]
    simp only [List.append_assoc, List.nil_append, List.append_nil, List.cons_append] at q1 ⊢
    exact q1

set_option maxRecDepth 20000 in
set_option maxHeartbeats 4000000 in
theorem T_iRe9 {X : Nat × (Nat → Int32)} {h0 h : PH} {Q : Option Value → PH → Prop} {L : List Int32} {n : Nat} (hn : n < 65536) (hl : L = []) (ho : n / 4096 = 9) (f : FW h0 h) (q : LW h L) (k1 : ∀ h', FW h0 h' → LW h' (lwT (dN n) (nI n)) → ¬ dN n = 36 → Q (some (.int 1)) h') (k0 : dN n = 36 → Q (some (.int 0)) h) : WP X mX11_isRest 6 130 0 (en 5 [.ref 25, .int (nI n)]) [] h Q := by
  subst hl
  refine w_iload_n dX11_isRest_0 rfl rfl ?_
  refine w_bipush dX11_isRest_1 (v := 12) (by decide) ?_
  refine w_ishr dX11_isRest_3 ?_
  rw [sh_12 hn, ho, show nI 9 = 9 from rfl]
  refine w_istore_n dX11_isRest_4 rfl (by decide) ?_
  refine w_iload_n dX11_isRest_5 rfl rfl ?_
  refine w_bipush dX11_isRest_6 (v := 8) (by decide) ?_
  refine w_icmp_ne (tgt := 25) dX11_isRest_8 (by decide) (fun c_8 => ?_) (fun c_8 => absurd c_8 (by decide))
  refine w_iload_n dX11_isRest_25 rfl rfl ?_
  refine w_bipush dX11_isRest_26 (v := 9) (by decide) ?_
  refine w_icmp_ne (tgt := 48) dX11_isRest_28 (by decide) (fun c_28 => absurd c_28 (by decide)) (fun c_28 => ?_)
  refine w_iload_n dX11_isRest_31 rfl rfl ?_
  refine w_bipush dX11_isRest_32 (v := 63) (by decide) ?_
  refine w_iand dX11_isRest_34 ?_
  refine w_bipush dX11_isRest_35 (v := 63) (by decide) ?_
  refine w_icmp_ne (tgt := 48) dX11_isRest_37 (by decide) (fun c_37 => ?_) (fun c_37 => ?_)
  · rw [show (63 : Int32) = nI 63 from rfl, la_n hn (by decide) (by decide)] at c_37
    refine w_iload_n dX11_isRest_48 rfl rfl ?_
    refine w_bipush dX11_isRest_49 (v := 12) (by decide) ?_
    refine w_icmp_ne (tgt := 108) dX11_isRest_51 (by decide) (fun c_51 => ?_) (fun c_51 => absurd c_51 (by decide))
    refine w_iload_n dX11_isRest_108 rfl rfl ?_
    refine w_bipush dX11_isRest_109 (v := 15) (by decide) ?_
    refine w_icmp_ne (tgt := 122) dX11_isRest_111 (by decide) (fun c_111 => ?_) (fun c_111 => absurd c_111 (by decide))
    refine w_iconst dX11_isRest_122 (v := 0) (by decide) ?_
    refine w_iret dX11_isRest_123 (fun _ e => by cases e; decide) ?_
    refine k0 ?_
    unfold dN; rw [sr_12, ho]
    show (bif Nat.beq (Nat.land n 63) 63 then 16 else 36) = 36
    rw [show Nat.beq (Nat.land n 63) 63 = false from Bool.eq_false_iff.mpr (fun e => c_37 (Nat.eq_of_beq_eq_true e))]; rfl
  · rw [show (63 : Int32) = nI 63 from rfl, la_n hn (by decide) (by decide)] at c_37
    refine w_aload_n dX11_isRest_40 rfl rfl ?_
    refine w_iconst dX11_isRest_41 (v := 2) (by decide) ?_
    refine w_iload_n dX11_isRest_42 rfl rfl ?_
    refine w_v2 (d2 := 5) (L2 := 108) dX11_isRest_43 vX11_399 rfl (q.1.lt (by decide)) rfl rfl (by decide) (Nat.le_of_ble_eq_true rfl) (by decide) (by decide) ?_
    refine T_sTw (k9 := 2) (by decide) rfl f q (fun h1 f1 q1 => ?_)
    refine k_v rfl ?_
    refine w_iconst dX11_isRest_46 (v := 1) (by decide) ?_
    refine w_iret dX11_isRest_47 (fun _ e => by cases e; decide) ?_
    have dk : dN n = 16 := by
      unfold dN; rw [sr_12, ho]
      show (bif Nat.beq (Nat.land n 63) 63 then 16 else 36) = 16
      rw [c_37]; rfl
    rw [dk] at k1
    refine k1 _ f1 ?_ (by decide)
    rw [lw_16]
    simp only [List.append_assoc, List.nil_append, List.append_nil, List.cons_append] at q1 ⊢
    exact q1

set_option maxRecDepth 20000 in
set_option maxHeartbeats 4000000 in
theorem T_iRe12 {X : Nat × (Nat → Int32)} {h0 h : PH} {Q : Option Value → PH → Prop} {L : List Int32} {n : Nat} (hn : n < 65536) (hl : L = []) (ho : n / 4096 = 12) (f : FW h0 h) (q : LW h L) (k1 : ∀ h', FW h0 h' → LW h' (lwT (dN n) (nI n)) → ¬ dN n = 36 → Q (some (.int 1)) h') (k0 : dN n = 36 → Q (some (.int 0)) h) : WP X mX11_isRest 6 130 0 (en 5 [.ref 25, .int (nI n)]) [] h Q := by
  subst hl
  refine w_iload_n dX11_isRest_0 rfl rfl ?_
  refine w_bipush dX11_isRest_1 (v := 12) (by decide) ?_
  refine w_ishr dX11_isRest_3 ?_
  rw [sh_12 hn, ho, show nI 12 = 12 from rfl]
  refine w_istore_n dX11_isRest_4 rfl (by decide) ?_
  refine w_iload_n dX11_isRest_5 rfl rfl ?_
  refine w_bipush dX11_isRest_6 (v := 8) (by decide) ?_
  refine w_icmp_ne (tgt := 25) dX11_isRest_8 (by decide) (fun c_8 => ?_) (fun c_8 => absurd c_8 (by decide))
  refine w_iload_n dX11_isRest_25 rfl rfl ?_
  refine w_bipush dX11_isRest_26 (v := 9) (by decide) ?_
  refine w_icmp_ne (tgt := 48) dX11_isRest_28 (by decide) (fun c_28 => ?_) (fun c_28 => absurd c_28 (by decide))
  refine w_iload_n dX11_isRest_48 rfl rfl ?_
  refine w_bipush dX11_isRest_49 (v := 12) (by decide) ?_
  refine w_icmp_ne (tgt := 108) dX11_isRest_51 (by decide) (fun c_51 => absurd c_51 (by decide)) (fun c_51 => ?_)
  refine w_iload_n dX11_isRest_54 rfl rfl ?_
  refine w_sipush dX11_isRest_55 (v := 3647) (by decide) ?_
  refine w_iand dX11_isRest_58 ?_
  refine w_if_ne (tgt := 108) dX11_isRest_59 (by decide) (fun c_59 => ?_) (fun c_59 => ?_)
  · rw [show (3647 : Int32) = nI 3647 from rfl, show (0 : Int32) = nI 0 from rfl, la_n hn (by decide) (by decide)] at c_59
    refine w_iload_n dX11_isRest_108 rfl rfl ?_
    refine w_bipush dX11_isRest_109 (v := 15) (by decide) ?_
    refine w_icmp_ne (tgt := 122) dX11_isRest_111 (by decide) (fun c_111 => ?_) (fun c_111 => absurd c_111 (by decide))
    refine w_iconst dX11_isRest_122 (v := 0) (by decide) ?_
    refine w_iret dX11_isRest_123 (fun _ e => by cases e; decide) ?_
    refine k0 ?_
    unfold dN; rw [sr_12, ho]
    show (bif Nat.beq (Nat.land n 3647) 0 then (bif Nat.beq n 49600 then 24 else 25) else 36) = 36
    rw [show Nat.beq (Nat.land n 3647) 0 = false from Bool.eq_false_iff.mpr (fun e => c_59 (Nat.eq_of_beq_eq_true e))]; rfl
  · rw [show (3647 : Int32) = nI 3647 from rfl, show (0 : Int32) = nI 0 from rfl, la_n hn (by decide) (by decide)] at c_59
    refine w_aload_n dX11_isRest_62 rfl rfl ?_
    refine w_iload_n dX11_isRest_63 rfl rfl ?_
    refine w_ldcw dX11_isRest_64 kX11_362 ?_
    refine w_icmp_ne (tgt := 75) dX11_isRest_67 (by decide) (fun c_67 => ?_) (fun c_67 => ?_)
    · rw [show (49600 : Int32) = nI 49600 from rfl, nI_eq (by omega) (by decide)] at c_67
      refine w_bipush dX11_isRest_75 (v := 10) (by decide) ?_
      refine w_v1 (d2 := 4) (L2 := 85) dX11_isRest_77 vX11_372 rfl (q.1.lt (by decide)) rfl (by decide) (Nat.le_of_ble_eq_true rfl) (by decide) (by decide) ?_
      refine T_sayN (k9 := 10) (by decide) (Nat.le_of_ble_eq_true rfl) f q (fun h1 f1 q1 => ?_)
      refine k_v rfl ?_
      refine w_iload_n dX11_isRest_80 rfl rfl ?_
      refine w_ldcw dX11_isRest_81 kX11_362 ?_
      refine w_icmp_ne (tgt := 89) dX11_isRest_84 (by decide) (fun c_84 => ?_) (fun c_84 => absurd c_84 (fun e => c_67 ((nI_eq (a := n) (b := 49600) (by omega) (by decide)).mp e)))
      refine w_aload_n dX11_isRest_89 rfl rfl ?_
      refine w_bipush dX11_isRest_90 (v := 32) (by decide) ?_
      refine w_v1 (d2 := 0) (L2 := 0) dX11_isRest_92 vX11_366 rfl (q1.1.lt (by decide)) rfl (by decide) (Nat.le_of_ble_eq_true rfl) (by decide) (by decide) ?_
      refine T_say (Nat.le_of_ble_eq_true rfl) f1 q1 (fun h2 f2 q2 => ?_)
      refine k_v rfl ?_
      refine w_aload_n dX11_isRest_95 rfl rfl ?_
      refine w_iload_n dX11_isRest_96 rfl rfl ?_
      refine w_bipush dX11_isRest_97 (v := 6) (by decide) ?_
      refine w_ishr dX11_isRest_99 ?_
      refine w_bipush dX11_isRest_100 (v := 7) (by decide) ?_
      refine w_iand dX11_isRest_102 ?_
      refine w_v1 (d2 := 1) (L2 := 21) dX11_isRest_103 vX11_378 rfl (q2.1.lt (by decide)) rfl (by decide) (Nat.le_of_ble_eq_true rfl) (by decide) (by decide) ?_
      refine T_srg (Nat.le_of_ble_eq_true rfl) f2 q2 (fun h3 f3 q3 => ?_)
      refine k_v rfl ?_
      refine w_iconst dX11_isRest_106 (v := 1) (by decide) ?_
      refine w_iret dX11_isRest_107 (fun _ e => by cases e; decide) ?_
      have dk : dN n = 25 := by
        unfold dN; rw [sr_12, ho]
        show (bif Nat.beq (Nat.land n 3647) 0 then (bif Nat.beq n 49600 then 24 else 25) else 36) = 25
        rw [c_59, show Nat.beq n 49600 = false from Bool.eq_false_iff.mpr (fun e => c_67 (Nat.eq_of_beq_eq_true e))]; rfl
      rw [dk] at k1
      refine k1 _ f3 ?_ (by decide)
      rw [lw_25]
      simp only [List.append_assoc, List.nil_append, List.append_nil, List.cons_append] at q3 ⊢
      exact q3
    · rw [show (49600 : Int32) = nI 49600 from rfl, nI_eq (by omega) (by decide)] at c_67
      refine w_bipush dX11_isRest_70 (v := 14) (by decide) ?_
      refine w_goto (tgt := 77) dX11_isRest_72 (by decide) ?_
      refine w_v1 (d2 := 4) (L2 := 85) dX11_isRest_77 vX11_372 rfl (q.1.lt (by decide)) rfl (by decide) (Nat.le_of_ble_eq_true rfl) (by decide) (by decide) ?_
      refine T_sayN (k9 := 14) (by decide) (Nat.le_of_ble_eq_true rfl) f q (fun h4 f4 q4 => ?_)
      refine k_v rfl ?_
      refine w_iload_n dX11_isRest_80 rfl rfl ?_
      refine w_ldcw dX11_isRest_81 kX11_362 ?_
      refine w_icmp_ne (tgt := 89) dX11_isRest_84 (by decide) (fun c_84 => absurd c_84 (not_not_intro (by rw [c_67]; rfl))) (fun c_84 => ?_)
      refine w_iconst dX11_isRest_87 (v := 1) (by decide) ?_
      refine w_iret dX11_isRest_88 (fun _ e => by cases e; decide) ?_
      have dk : dN n = 24 := by
        unfold dN; rw [sr_12, ho]
        show (bif Nat.beq (Nat.land n 3647) 0 then (bif Nat.beq n 49600 then 24 else 25) else 36) = 24
        rw [c_59, c_67]; rfl
      rw [dk] at k1
      refine k1 _ f4 ?_ (by decide)
      rw [lw_24]
      simp only [List.append_assoc, List.nil_append, List.append_nil, List.cons_append] at q4 ⊢
      exact q4

set_option maxRecDepth 20000 in
set_option maxHeartbeats 4000000 in
theorem T_iRe13 {X : Nat × (Nat → Int32)} {h0 h : PH} {Q : Option Value → PH → Prop} {L : List Int32} {n : Nat} (hn : n < 65536) (hl : L = []) (ho : n / 4096 = 13) (f : FW h0 h) (q : LW h L) (k1 : ∀ h', FW h0 h' → LW h' (lwT (dN n) (nI n)) → ¬ dN n = 36 → Q (some (.int 1)) h') (k0 : dN n = 36 → Q (some (.int 0)) h) : WP X mX11_isRest 6 130 0 (en 5 [.ref 25, .int (nI n)]) [] h Q := by
  subst hl
  refine w_iload_n dX11_isRest_0 rfl rfl ?_
  refine w_bipush dX11_isRest_1 (v := 12) (by decide) ?_
  refine w_ishr dX11_isRest_3 ?_
  rw [sh_12 hn, ho, show nI 13 = 13 from rfl]
  refine w_istore_n dX11_isRest_4 rfl (by decide) ?_
  refine w_iload_n dX11_isRest_5 rfl rfl ?_
  refine w_bipush dX11_isRest_6 (v := 8) (by decide) ?_
  refine w_icmp_ne (tgt := 25) dX11_isRest_8 (by decide) (fun c_8 => ?_) (fun c_8 => absurd c_8 (by decide))
  refine w_iload_n dX11_isRest_25 rfl rfl ?_
  refine w_bipush dX11_isRest_26 (v := 9) (by decide) ?_
  refine w_icmp_ne (tgt := 48) dX11_isRest_28 (by decide) (fun c_28 => ?_) (fun c_28 => absurd c_28 (by decide))
  refine w_iload_n dX11_isRest_48 rfl rfl ?_
  refine w_bipush dX11_isRest_49 (v := 12) (by decide) ?_
  refine w_icmp_ne (tgt := 108) dX11_isRest_51 (by decide) (fun c_51 => ?_) (fun c_51 => absurd c_51 (by decide))
  refine w_iload_n dX11_isRest_108 rfl rfl ?_
  refine w_bipush dX11_isRest_109 (v := 15) (by decide) ?_
  refine w_icmp_ne (tgt := 122) dX11_isRest_111 (by decide) (fun c_111 => ?_) (fun c_111 => absurd c_111 (by decide))
  refine w_iconst dX11_isRest_122 (v := 0) (by decide) ?_
  refine w_iret dX11_isRest_123 (fun _ e => by cases e; decide) ?_
  refine k0 ?_
  unfold dN; rw [sr_12, ho]
  rfl

set_option maxRecDepth 20000 in
set_option maxHeartbeats 4000000 in
theorem T_iRe15 {X : Nat × (Nat → Int32)} {h0 h : PH} {Q : Option Value → PH → Prop} {L : List Int32} {n : Nat} (hn : n < 65536) (hl : L = []) (ho : n / 4096 = 15) (f : FW h0 h) (q : LW h L) (k1 : ∀ h', FW h0 h' → LW h' (lwT (dN n) (nI n)) → ¬ dN n = 36 → Q (some (.int 1)) h') (k0 : dN n = 36 → Q (some (.int 0)) h) : WP X mX11_isRest 6 130 0 (en 5 [.ref 25, .int (nI n)]) [] h Q := by
  subst hl
  refine w_iload_n dX11_isRest_0 rfl rfl ?_
  refine w_bipush dX11_isRest_1 (v := 12) (by decide) ?_
  refine w_ishr dX11_isRest_3 ?_
  rw [sh_12 hn, ho, show nI 15 = 15 from rfl]
  refine w_istore_n dX11_isRest_4 rfl (by decide) ?_
  refine w_iload_n dX11_isRest_5 rfl rfl ?_
  refine w_bipush dX11_isRest_6 (v := 8) (by decide) ?_
  refine w_icmp_ne (tgt := 25) dX11_isRest_8 (by decide) (fun c_8 => ?_) (fun c_8 => absurd c_8 (by decide))
  refine w_iload_n dX11_isRest_25 rfl rfl ?_
  refine w_bipush dX11_isRest_26 (v := 9) (by decide) ?_
  refine w_icmp_ne (tgt := 48) dX11_isRest_28 (by decide) (fun c_28 => ?_) (fun c_28 => absurd c_28 (by decide))
  refine w_iload_n dX11_isRest_48 rfl rfl ?_
  refine w_bipush dX11_isRest_49 (v := 12) (by decide) ?_
  refine w_icmp_ne (tgt := 108) dX11_isRest_51 (by decide) (fun c_51 => ?_) (fun c_51 => absurd c_51 (by decide))
  refine w_iload_n dX11_isRest_108 rfl rfl ?_
  refine w_bipush dX11_isRest_109 (v := 15) (by decide) ?_
  refine w_icmp_ne (tgt := 122) dX11_isRest_111 (by decide) (fun c_111 => absurd c_111 (by decide)) (fun c_111 => ?_)
  refine w_iload_n dX11_isRest_114 rfl rfl ?_
  refine w_sipush dX11_isRest_115 (v := 3840) (by decide) ?_
  refine w_iand dX11_isRest_118 ?_
  refine w_if_eq (tgt := 124) dX11_isRest_119 (by decide) (fun c_119 => ?_) (fun c_119 => ?_)
  · rw [show (3840 : Int32) = nI 3840 from rfl, show (0 : Int32) = nI 0 from rfl, la_n hn (by decide) (by decide)] at c_119
    have v9 : nI n &&& 255 = nI (n % 256) := pk_andN (by omega) 8 (by decide)
    have l9 : Nat.land n 255 = n % 256 := by show n &&& 255 = _; rw [show (255 : Nat) = 2 ^ 8 - 1 from rfl, Nat.and_two_pow_sub_one_eq_mod]
    refine w_iload_n dX11_isRest_124 rfl rfl ?_
    refine w_sipush dX11_isRest_125 (v := 255) (by decide) ?_
    refine w_iand dX11_isRest_128 ?_
    rw [v9]
    refine w_istore_n dX11_isRest_129 rfl (by decide) ?_
    refine w_iload_n dX11_isRest_130 rfl rfl ?_
    refine w_bipush dX11_isRest_131 (v := 32) (by decide) ?_
    refine w_icmp_lt (tgt := 146) dX11_isRest_133 (by decide) (fun c_133 => ?_) (fun c_133 => ?_)
    · rw [show (32 : Int32) = nI 32 from rfl, nI_ltI (by omega) (by decide)] at c_133
      refine w_iconst dX11_isRest_146 (v := 0) (by decide) ?_
      refine w_istore dX11_isRest_147 (by decide) ?_
      refine w_aload_n dX11_isRest_149 rfl rfl ?_
      refine w_iload dX11_isRest_150 rfl ?_
      refine w_if_eq (tgt := 165) dX11_isRest_152 (by decide) (fun c_152 => ?_) (fun c_152 => absurd c_152 (not_not_intro rfl))
      refine w_bipush dX11_isRest_165 (v := 13) (by decide) ?_
      refine w_v1 (d2 := 4) (L2 := 85) dX11_isRest_167 vX11_372 rfl (q.1.lt (by decide)) rfl (by decide) (Nat.le_of_ble_eq_true rfl) (by decide) (by decide) ?_
      refine T_sayN (k9 := 13) (by decide) (Nat.le_of_ble_eq_true rfl) f q (fun h1 f1 q1 => ?_)
      refine k_v rfl ?_
      refine w_iload dX11_isRest_170 rfl ?_
      refine w_if_eq (tgt := 177) dX11_isRest_172 (by decide) (fun c_172 => ?_) (fun c_172 => absurd c_172 (not_not_intro rfl))
      refine w_aload_n dX11_isRest_177 rfl rfl ?_
      refine w_bipush dX11_isRest_178 (v := 32) (by decide) ?_
      refine w_v1 (d2 := 0) (L2 := 0) dX11_isRest_180 vX11_366 rfl (q1.1.lt (by decide)) rfl (by decide) (Nat.le_of_ble_eq_true rfl) (by decide) (by decide) ?_
      refine T_say (Nat.le_of_ble_eq_true rfl) f1 q1 (fun h2 f2 q2 => ?_)
      refine k_v rfl ?_
      refine w_aload_n dX11_isRest_183 rfl rfl ?_
      refine w_iload_n dX11_isRest_184 rfl rfl ?_
      refine w_iconst dX11_isRest_185 (v := 2) (by decide) ?_
      refine w_v2 (d2 := 1) (L2 := 21) dX11_isRest_186 vX11_375 rfl (q2.1.lt (by decide)) rfl rfl (by decide) (Nat.le_of_ble_eq_true rfl) (by decide) (by decide) ?_
      refine T_shx2 (Nat.le_of_ble_eq_true rfl) f2 q2 (fun h3 f3 q3 => ?_)
      refine k_v rfl ?_
      refine w_iconst dX11_isRest_189 (v := 1) (by decide) ?_
      refine w_iret dX11_isRest_190 (fun _ e => by cases e; decide) ?_
      have dk : dN n = 35 := by
        unfold dN; rw [sr_12, ho]
        show (bif Nat.beq (Nat.land n 3840) 0 then (bif Nat.ble 32 (Nat.land n 255) && Nat.ble (Nat.land n 255) 37 then Nat.sub (Nat.land n 255) 3 else 35) else 36) = 35
        rw [c_119, l9, show Nat.ble 32 (n % 256) = false from Bool.eq_false_iff.mpr (fun e => by have := Nat.le_of_ble_eq_true e; omega)]; rfl
      rw [dk] at k1
      refine k1 _ f3 ?_ (by decide)
      rw [lw_35, ← hx_255 hn]
      simp only [List.append_assoc, List.nil_append, List.append_nil, List.cons_append] at q3 ⊢
      exact q3
    · rw [show (32 : Int32) = nI 32 from rfl, nI_ltI (by omega) (by decide)] at c_133
      refine w_iload_n dX11_isRest_136 rfl rfl ?_
      refine w_bipush dX11_isRest_137 (v := 37) (by decide) ?_
      refine w_icmp_gt (tgt := 146) dX11_isRest_139 (by decide) (fun c_139 => ?_) (fun c_139 => ?_)
      · rw [show (37 : Int32) = nI 37 from rfl, nI_ltI (by decide) (by omega)] at c_139
        refine w_iconst dX11_isRest_146 (v := 0) (by decide) ?_
        refine w_istore dX11_isRest_147 (by decide) ?_
        refine w_aload_n dX11_isRest_149 rfl rfl ?_
        refine w_iload dX11_isRest_150 rfl ?_
        refine w_if_eq (tgt := 165) dX11_isRest_152 (by decide) (fun c_152 => ?_) (fun c_152 => absurd c_152 (not_not_intro rfl))
        refine w_bipush dX11_isRest_165 (v := 13) (by decide) ?_
        refine w_v1 (d2 := 4) (L2 := 85) dX11_isRest_167 vX11_372 rfl (q.1.lt (by decide)) rfl (by decide) (Nat.le_of_ble_eq_true rfl) (by decide) (by decide) ?_
        refine T_sayN (k9 := 13) (by decide) (Nat.le_of_ble_eq_true rfl) f q (fun h4 f4 q4 => ?_)
        refine k_v rfl ?_
        refine w_iload dX11_isRest_170 rfl ?_
        refine w_if_eq (tgt := 177) dX11_isRest_172 (by decide) (fun c_172 => ?_) (fun c_172 => absurd c_172 (not_not_intro rfl))
        refine w_aload_n dX11_isRest_177 rfl rfl ?_
        refine w_bipush dX11_isRest_178 (v := 32) (by decide) ?_
        refine w_v1 (d2 := 0) (L2 := 0) dX11_isRest_180 vX11_366 rfl (q4.1.lt (by decide)) rfl (by decide) (Nat.le_of_ble_eq_true rfl) (by decide) (by decide) ?_
        refine T_say (Nat.le_of_ble_eq_true rfl) f4 q4 (fun h5 f5 q5 => ?_)
        refine k_v rfl ?_
        refine w_aload_n dX11_isRest_183 rfl rfl ?_
        refine w_iload_n dX11_isRest_184 rfl rfl ?_
        refine w_iconst dX11_isRest_185 (v := 2) (by decide) ?_
        refine w_v2 (d2 := 1) (L2 := 21) dX11_isRest_186 vX11_375 rfl (q5.1.lt (by decide)) rfl rfl (by decide) (Nat.le_of_ble_eq_true rfl) (by decide) (by decide) ?_
        refine T_shx2 (Nat.le_of_ble_eq_true rfl) f5 q5 (fun h6 f6 q6 => ?_)
        refine k_v rfl ?_
        refine w_iconst dX11_isRest_189 (v := 1) (by decide) ?_
        refine w_iret dX11_isRest_190 (fun _ e => by cases e; decide) ?_
        have dk : dN n = 35 := by
          unfold dN; rw [sr_12, ho]
          show (bif Nat.beq (Nat.land n 3840) 0 then (bif Nat.ble 32 (Nat.land n 255) && Nat.ble (Nat.land n 255) 37 then Nat.sub (Nat.land n 255) 3 else 35) else 36) = 35
          rw [c_119, l9, show Nat.ble (n % 256) 37 = false from Bool.eq_false_iff.mpr (fun e => by have := Nat.le_of_ble_eq_true e; omega), Bool.and_false]; rfl
        rw [dk] at k1
        refine k1 _ f6 ?_ (by decide)
        rw [lw_35, ← hx_255 hn]
        simp only [List.append_assoc, List.nil_append, List.append_nil, List.cons_append] at q6 ⊢
        exact q6
      · rw [show (37 : Int32) = nI 37 from rfl, nI_ltI (by decide) (by omega)] at c_139
        refine w_iconst dX11_isRest_142 (v := 1) (by decide) ?_
        refine w_goto (tgt := 147) dX11_isRest_143 (by decide) ?_
        refine w_istore dX11_isRest_147 (by decide) ?_
        refine w_aload_n dX11_isRest_149 rfl rfl ?_
        refine w_iload dX11_isRest_150 rfl ?_
        refine w_if_eq (tgt := 165) dX11_isRest_152 (by decide) (fun c_152 => absurd c_152 (by decide)) (fun c_152 => ?_)
        refine w_bipush dX11_isRest_155 (v := 16) (by decide) ?_
        refine w_iload_n dX11_isRest_157 rfl rfl ?_
        refine w_iadd dX11_isRest_158 ?_
        refine w_bipush dX11_isRest_159 (v := 32) (by decide) ?_
        refine w_isub dX11_isRest_161 ?_
        refine w_goto (tgt := 167) dX11_isRest_162 (by decide) ?_
        refine w_v1 (d2 := 4) (L2 := 85) dX11_isRest_167 vX11_372 rfl (q.1.lt (by decide)) rfl (by decide) (Nat.le_of_ble_eq_true rfl) (by decide) (by decide) ?_
        rw [show (16 : Int32) + nI (n % 256) - 32 = nI (16 + n % 256 - 32) from by rw [show (16 : Int32) = nI 16 from rfl, nI_add, show (32 : Int32) = nI 32 from rfl, nI_sub (by omega)]]
        refine T_sayN (k9 := 16 + n % 256 - 32) (by omega) (by decide) f q (fun h7 f7 q7 => ?_)
        refine k_v rfl ?_
        refine w_iload dX11_isRest_170 rfl ?_
        refine w_if_eq (tgt := 177) dX11_isRest_172 (by decide) (fun c_172 => absurd c_172 (by decide)) (fun c_172 => ?_)
        refine w_iconst dX11_isRest_175 (v := 1) (by decide) ?_
        refine w_iret dX11_isRest_176 (fun _ e => by cases e; decide) ?_
        have on := (ow_n (n % 256) (by omega)).resolve_left (by omega)
        have dk : dN n = Nat.sub (n % 256) 3 := by
          unfold dN; rw [sr_12, ho]
          show (bif Nat.beq (Nat.land n 3840) 0 then (bif Nat.ble 32 (Nat.land n 255) && Nat.ble (Nat.land n 255) 37 then Nat.sub (Nat.land n 255) 3 else 35) else 36) = Nat.sub (n % 256) 3
          rw [c_119, l9, show Nat.ble 32 (n % 256) = true from Nat.ble_eq_true_of_le (by omega), show Nat.ble (n % 256) 37 = true from Nat.ble_eq_true_of_le (by omega)]; rfl
        rw [dk] at k1
        refine k1 _ f7 ?_ on.2.2
        unfold lwT
        rw [on.1, on.2.1, show opL (nI n) [] true = [] from rfl, List.append_nil]
        rw [List.nil_append] at q7
        exact q7
  · rw [show (3840 : Int32) = nI 3840 from rfl, show (0 : Int32) = nI 0 from rfl, la_n hn (by decide) (by decide)] at c_119
    refine w_iconst dX11_isRest_122 (v := 0) (by decide) ?_
    refine w_iret dX11_isRest_123 (fun _ e => by cases e; decide) ?_
    refine k0 ?_
    unfold dN; rw [sr_12, ho]
    show (bif Nat.beq (Nat.land n 3840) 0 then (bif Nat.ble 32 (Nat.land n 255) && Nat.ble (Nat.land n 255) 37 then Nat.sub (Nat.land n 255) 3 else 35) else 36) = 36
    rw [show Nat.beq (Nat.land n 3840) 0 = false from Bool.eq_false_iff.mpr (fun e => c_119 (Nat.eq_of_beq_eq_true e))]; rfl

