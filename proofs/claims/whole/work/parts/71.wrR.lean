/-! THE REFERENCE's WRITER: letters -/
set_option maxRecDepth 20000 in
set_option maxHeartbeats 4000000 in
theorem T_say {X : Nat × (Nat → Int32)} {h0 h : PH} {Q : Option Value → PH → Prop} {L : List Int32} {b : Int32} (hl : L.length < 40) (f : FW h0 h) (q : LW h L) (k : ∀ h', FW h0 h' → LW h' (L ++ [b]) → Q none h') : WP X mX11_say 0 0 0 (en 2 [.ref 25, .int b]) [] h Q := by
  refine w_aload_n dX11_say_0 rfl rfl ?_
  refine w_gs (b := 37) q.1 dX11_say_1 fX11_48 (by decide) rfl rfl (by decide) ?_
  refine w_aload_n dX11_say_4 rfl rfl ?_
  refine w_gi q.1 dX11_say_5 fX11_363 rfl rfl (by decide) ?_
  refine w_iload_n dX11_say_8 rfl rfl ?_
  refine w_iastore dX11_say_9 rfl (q.1.lt (by decide)) (by rw [q.2.1]; exact vp_in_nI (show L.length < 40 from hl) (by decide)) ?_
  refine w_aload_n dX11_say_10 rfl rfl ?_
  refine w_dup dX11_say_11 rfl ?_
  refine w_gi q.1 dX11_say_12 fX11_363 rfl rfl (by decide) ?_
  refine w_iconst dX11_say_15 (v := 1) (by decide) ?_
  refine w_iadd dX11_say_16 ?_
  refine w_pi q.1 dX11_say_17 fX11_363 rfl rfl (by decide) ?_
  refine w_vret dX11_say_20 ?_
  have e : (hI h 25 38).toNatClampNeg = L.length := by rw [q.2.1, nI_clamp (by omega)]
  refine k _ ⟨(f.1.i (by decide)).i (by decide), fun k hk => by rw [rI_k hk, rI_a (by decide)]; exact f.2 k hk⟩ ⟨q.1.i.i, ?_, ?_, fun i v hv => ?_⟩
  · rw [rI, if_pos rfl, if_pos rfl, rI_a (by decide), q.2.1, nI_1, List.length_append]; rfl
  · rw [List.length_append]; simp only [List.length_cons, List.length_nil]; omega
  · rw [rI_a (by decide), e]
    by_cases c : i = L.length
    · subst c; rw [rI, if_pos rfl, if_pos rfl]; rw [List.getElem?_append_right (Nat.le_refl _), Nat.sub_self] at hv; exact Option.some.inj hv
    · have hi : i < L.length := by
        have := (List.getElem?_eq_some_iff.mp hv).1
        rw [List.length_append] at this; simp only [List.length_cons, List.length_nil] at this; omega
      rw [rI_k c]; rw [List.getElem?_append_left hi] at hv; exact q.2.2.2 i v hv

set_option maxRecDepth 20000 in
set_option maxHeartbeats 4000000 in
theorem T_srg {X : Nat × (Nat → Int32)} {h0 h : PH} {Q : Option Value → PH → Prop} {L : List Int32} {r9 : Int32} (hl : L.length + 2 ≤ 40) (f : FW h0 h) (q : LW h L) (k : ∀ h', FW h0 h' → LW h' (L ++ rgT r9) → Q none h') : WP X mX11_sayRegister 1 21 0 (en 2 [.ref 25, .int r9]) [] h Q := by
  refine w_aload_n dX11_sayRegister_0 rfl rfl ?_
  refine w_bipush dX11_sayRegister_1 (v := 82) (by decide) ?_
  refine w_v1 (d2 := 0) (L2 := 0) dX11_sayRegister_3 vX11_366 rfl (q.1.lt (by decide)) rfl (by decide) (Nat.le_of_ble_eq_true rfl) (by decide) (by decide) ?_
  refine T_say (by first | omega | (simp only [List.length_append, List.length_cons, List.length_nil]; omega)) f q (fun h1 f1 q1 => ?_)
  refine k_v rfl ?_
  refine w_aload_n dX11_sayRegister_6 rfl rfl ?_
  refine w_bipush dX11_sayRegister_7 (v := 48) (by decide) ?_
  refine w_iload_n dX11_sayRegister_9 rfl rfl ?_
  refine w_iadd dX11_sayRegister_10 ?_
  refine w_v1 (d2 := 0) (L2 := 0) dX11_sayRegister_11 vX11_366 rfl (q1.1.lt (by decide)) rfl (by decide) (Nat.le_of_ble_eq_true rfl) (by decide) (by decide) ?_
  refine T_say (by first | omega | (simp only [List.length_append, List.length_cons, List.length_nil]; omega)) f1 q1 (fun h2 f2 q2 => ?_)
  refine k_v rfl ?_
  refine w_vret dX11_sayRegister_14 ?_
  rw [List.append_assoc] at q2; exact k _ f2 q2

set_option maxRecDepth 20000 in
set_option maxHeartbeats 4000000 in
theorem T_sbt {X : Nat × (Nat → Int32)} {h0 h : PH} {Q : Option Value → PH → Prop} {L : List Int32} (hl : L.length + 2 ≤ 40) (f : FW h0 h) (q : LW h L) (k : ∀ h', FW h0 h' → LW h' (L ++ [44, 32]) → Q none h') : WP X mX11_sayBetween 1 21 0 (en 1 [.ref 25]) [] h Q := by
  refine w_aload_n dX11_sayBetween_0 rfl rfl ?_
  refine w_bipush dX11_sayBetween_1 (v := 44) (by decide) ?_
  refine w_v1 (d2 := 0) (L2 := 0) dX11_sayBetween_3 vX11_366 rfl (q.1.lt (by decide)) rfl (by decide) (Nat.le_of_ble_eq_true rfl) (by decide) (by decide) ?_
  refine T_say (by first | omega | (simp only [List.length_append, List.length_cons, List.length_nil]; omega)) f q (fun h1 f1 q1 => ?_)
  refine k_v rfl ?_
  refine w_aload_n dX11_sayBetween_6 rfl rfl ?_
  refine w_bipush dX11_sayBetween_7 (v := 32) (by decide) ?_
  refine w_v1 (d2 := 0) (L2 := 0) dX11_sayBetween_9 vX11_366 rfl (q1.1.lt (by decide)) rfl (by decide) (Nat.le_of_ble_eq_true rfl) (by decide) (by decide) ?_
  refine T_say (by first | omega | (simp only [List.length_append, List.length_cons, List.length_nil]; omega)) f1 q1 (fun h2 f2 q2 => ?_)
  refine k_v rfl ?_
  refine w_vret dX11_sayBetween_12 ?_
  rw [List.append_assoc] at q2; exact k _ f2 q2

set_option maxRecDepth 20000 in
set_option maxHeartbeats 4000000 in
theorem T_snm {X : Nat × (Nat → Int32)} {h0 h : PH} {Q : Option Value → PH → Prop} {L : List Int32} {v : Int32} (hl : L.length + 6 ≤ 40) (f : FW h0 h) (q : LW h L) (k : ∀ h', FW h0 h' → LW h' (L ++ nvR v) → Q none h') : WP X mX11_sayNumber 1 21 0 (en 3 [.ref 25, .int v]) [] h Q := by
  refine w_aload_n dX11_sayNumber_0 rfl rfl ?_
  refine w_bipush dX11_sayNumber_1 (v := 35) (by decide) ?_
  refine w_v1 (d2 := 0) (L2 := 0) dX11_sayNumber_3 vX11_366 rfl (q.1.lt (by decide)) rfl (by decide) (Nat.le_of_ble_eq_true rfl) (by decide) (by decide) ?_
  refine T_say (by first | omega | (simp only [List.length_append, List.length_cons, List.length_nil]; omega)) f q (fun h1 f1 q1 => ?_)
  refine k_v rfl ?_
  refine w_iload_n dX11_sayNumber_6 rfl rfl ?_
  refine w_if_ge (tgt := 16) dX11_sayNumber_7 (by decide) (fun c_7 => ?_) (fun c_7 => ?_)
  · refine w_iload_n dX11_sayNumber_16 rfl rfl ?_
    refine w_if_ge (tgt := 25) dX11_sayNumber_17 (by decide) (fun c_17 => ?_) (fun c_17 => absurd c_17 (not_not_intro c_7))
    refine w_iload_n dX11_sayNumber_25 rfl rfl ?_
    refine w_istore_n dX11_sayNumber_26 rfl (by decide) ?_
    refine w_iload_n dX11_sayNumber_27 rfl rfl ?_
    refine w_sipush dX11_sayNumber_28 (v := 999) (by decide) ?_
    refine w_icmp_le (tgt := 46) dX11_sayNumber_31 (by decide) (fun c_31 => ?_) (fun c_31 => ?_)
    · refine w_iload_n dX11_sayNumber_46 rfl rfl ?_
      refine w_bipush dX11_sayNumber_47 (v := 99) (by decide) ?_
      refine w_icmp_le (tgt := 66) dX11_sayNumber_49 (by decide) (fun c_49 => ?_) (fun c_49 => ?_)
      · refine w_iload_n dX11_sayNumber_66 rfl rfl ?_
        refine w_bipush dX11_sayNumber_67 (v := 9) (by decide) ?_
        refine w_icmp_le (tgt := 86) dX11_sayNumber_69 (by decide) (fun c_69 => ?_) (fun c_69 => ?_)
        · refine w_aload_n dX11_sayNumber_86 rfl rfl ?_
          refine w_bipush dX11_sayNumber_87 (v := 48) (by decide) ?_
          refine w_iload_n dX11_sayNumber_89 rfl rfl ?_
          refine w_bipush dX11_sayNumber_90 (v := 10) (by decide) ?_
          refine w_irem dX11_sayNumber_92 (by decide) ?_
          refine w_iadd dX11_sayNumber_93 ?_
          refine w_v1 (d2 := 0) (L2 := 0) dX11_sayNumber_94 vX11_366 rfl (q1.1.lt (by decide)) rfl (by decide) (Nat.le_of_ble_eq_true rfl) (by decide) (by decide) ?_
          refine T_say (by first | omega | (simp only [List.length_append, List.length_cons, List.length_nil]; omega)) f1 q1 (fun h2 f2 q2 => ?_)
          refine k_v rfl ?_
          refine w_vret dX11_sayNumber_97 ?_
          have hv9 : (if v < 0 then -v else v) = v := if_neg (Int32.not_lt.mpr c_7)
          refine k _ f2 ?_
          unfold nvR
          rw [hv9, if_neg (Int32.not_lt.mpr c_7), if_neg (Int32.not_lt.mpr c_31), if_neg (Int32.not_lt.mpr c_49), if_neg (Int32.not_lt.mpr c_69)]
          simp only [List.append_assoc, List.cons_append, List.nil_append] at q2
          exact q2
        · refine w_aload_n dX11_sayNumber_72 rfl rfl ?_
          refine w_bipush dX11_sayNumber_73 (v := 48) (by decide) ?_
          refine w_iload_n dX11_sayNumber_75 rfl rfl ?_
          refine w_bipush dX11_sayNumber_76 (v := 10) (by decide) ?_
          refine w_idiv dX11_sayNumber_78 (by decide) ?_
          refine w_bipush dX11_sayNumber_79 (v := 10) (by decide) ?_
          refine w_irem dX11_sayNumber_81 (by decide) ?_
          refine w_iadd dX11_sayNumber_82 ?_
          refine w_v1 (d2 := 0) (L2 := 0) dX11_sayNumber_83 vX11_366 rfl (q1.1.lt (by decide)) rfl (by decide) (Nat.le_of_ble_eq_true rfl) (by decide) (by decide) ?_
          refine T_say (by first | omega | (simp only [List.length_append, List.length_cons, List.length_nil]; omega)) f1 q1 (fun h3 f3 q3 => ?_)
          refine k_v rfl ?_
          refine w_aload_n dX11_sayNumber_86 rfl rfl ?_
          refine w_bipush dX11_sayNumber_87 (v := 48) (by decide) ?_
          refine w_iload_n dX11_sayNumber_89 rfl rfl ?_
          refine w_bipush dX11_sayNumber_90 (v := 10) (by decide) ?_
          refine w_irem dX11_sayNumber_92 (by decide) ?_
          refine w_iadd dX11_sayNumber_93 ?_
          refine w_v1 (d2 := 0) (L2 := 0) dX11_sayNumber_94 vX11_366 rfl (q3.1.lt (by decide)) rfl (by decide) (Nat.le_of_ble_eq_true rfl) (by decide) (by decide) ?_
          refine T_say (by first | omega | (simp only [List.length_append, List.length_cons, List.length_nil]; omega)) f3 q3 (fun h4 f4 q4 => ?_)
          refine k_v rfl ?_
          refine w_vret dX11_sayNumber_97 ?_
          have hv9 : (if v < 0 then -v else v) = v := if_neg (Int32.not_lt.mpr c_7)
          refine k _ f4 ?_
          unfold nvR
          rw [hv9, if_neg (Int32.not_lt.mpr c_7), if_neg (Int32.not_lt.mpr c_31), if_neg (Int32.not_lt.mpr c_49), if_pos (Int32.not_le.mp c_69)]
          simp only [List.append_assoc, List.cons_append, List.nil_append] at q4
          exact q4
      · refine w_aload_n dX11_sayNumber_52 rfl rfl ?_
        refine w_bipush dX11_sayNumber_53 (v := 48) (by decide) ?_
        refine w_iload_n dX11_sayNumber_55 rfl rfl ?_
        refine w_bipush dX11_sayNumber_56 (v := 100) (by decide) ?_
        refine w_idiv dX11_sayNumber_58 (by decide) ?_
        refine w_bipush dX11_sayNumber_59 (v := 10) (by decide) ?_
        refine w_irem dX11_sayNumber_61 (by decide) ?_
        refine w_iadd dX11_sayNumber_62 ?_
        refine w_v1 (d2 := 0) (L2 := 0) dX11_sayNumber_63 vX11_366 rfl (q1.1.lt (by decide)) rfl (by decide) (Nat.le_of_ble_eq_true rfl) (by decide) (by decide) ?_
        refine T_say (by first | omega | (simp only [List.length_append, List.length_cons, List.length_nil]; omega)) f1 q1 (fun h5 f5 q5 => ?_)
        refine k_v rfl ?_
        refine w_iload_n dX11_sayNumber_66 rfl rfl ?_
        refine w_bipush dX11_sayNumber_67 (v := 9) (by decide) ?_
        refine w_icmp_le (tgt := 86) dX11_sayNumber_69 (by decide) (fun c_69 => ?_) (fun c_69 => ?_)
        · refine w_aload_n dX11_sayNumber_86 rfl rfl ?_
          refine w_bipush dX11_sayNumber_87 (v := 48) (by decide) ?_
          refine w_iload_n dX11_sayNumber_89 rfl rfl ?_
          refine w_bipush dX11_sayNumber_90 (v := 10) (by decide) ?_
          refine w_irem dX11_sayNumber_92 (by decide) ?_
          refine w_iadd dX11_sayNumber_93 ?_
          refine w_v1 (d2 := 0) (L2 := 0) dX11_sayNumber_94 vX11_366 rfl (q5.1.lt (by decide)) rfl (by decide) (Nat.le_of_ble_eq_true rfl) (by decide) (by decide) ?_
          refine T_say (by first | omega | (simp only [List.length_append, List.length_cons, List.length_nil]; omega)) f5 q5 (fun h6 f6 q6 => ?_)
          refine k_v rfl ?_
          refine w_vret dX11_sayNumber_97 ?_
          have hv9 : (if v < 0 then -v else v) = v := if_neg (Int32.not_lt.mpr c_7)
          refine k _ f6 ?_
          unfold nvR
          rw [hv9, if_neg (Int32.not_lt.mpr c_7), if_neg (Int32.not_lt.mpr c_31), if_pos (Int32.not_le.mp c_49), if_neg (Int32.not_lt.mpr c_69)]
          simp only [List.append_assoc, List.cons_append, List.nil_append] at q6
          exact q6
        · refine w_aload_n dX11_sayNumber_72 rfl rfl ?_
          refine w_bipush dX11_sayNumber_73 (v := 48) (by decide) ?_
          refine w_iload_n dX11_sayNumber_75 rfl rfl ?_
          refine w_bipush dX11_sayNumber_76 (v := 10) (by decide) ?_
          refine w_idiv dX11_sayNumber_78 (by decide) ?_
          refine w_bipush dX11_sayNumber_79 (v := 10) (by decide) ?_
          refine w_irem dX11_sayNumber_81 (by decide) ?_
          refine w_iadd dX11_sayNumber_82 ?_
          refine w_v1 (d2 := 0) (L2 := 0) dX11_sayNumber_83 vX11_366 rfl (q5.1.lt (by decide)) rfl (by decide) (Nat.le_of_ble_eq_true rfl) (by decide) (by decide) ?_
          refine T_say (by first | omega | (simp only [List.length_append, List.length_cons, List.length_nil]; omega)) f5 q5 (fun h7 f7 q7 => ?_)
          refine k_v rfl ?_
          refine w_aload_n dX11_sayNumber_86 rfl rfl ?_
          refine w_bipush dX11_sayNumber_87 (v := 48) (by decide) ?_
          refine w_iload_n dX11_sayNumber_89 rfl rfl ?_
          refine w_bipush dX11_sayNumber_90 (v := 10) (by decide) ?_
          refine w_irem dX11_sayNumber_92 (by decide) ?_
          refine w_iadd dX11_sayNumber_93 ?_
          refine w_v1 (d2 := 0) (L2 := 0) dX11_sayNumber_94 vX11_366 rfl (q7.1.lt (by decide)) rfl (by decide) (Nat.le_of_ble_eq_true rfl) (by decide) (by decide) ?_
          refine T_say (by first | omega | (simp only [List.length_append, List.length_cons, List.length_nil]; omega)) f7 q7 (fun h8 f8 q8 => ?_)
          refine k_v rfl ?_
          refine w_vret dX11_sayNumber_97 ?_
          have hv9 : (if v < 0 then -v else v) = v := if_neg (Int32.not_lt.mpr c_7)
          refine k _ f8 ?_
          unfold nvR
          rw [hv9, if_neg (Int32.not_lt.mpr c_7), if_neg (Int32.not_lt.mpr c_31), if_pos (Int32.not_le.mp c_49), if_pos (Int32.not_le.mp c_69)]
          simp only [List.append_assoc, List.cons_append, List.nil_append] at q8
          exact q8
    · refine w_aload_n dX11_sayNumber_34 rfl rfl ?_
      refine w_bipush dX11_sayNumber_35 (v := 48) (by decide) ?_
      refine w_iload_n dX11_sayNumber_37 rfl rfl ?_
      refine w_sipush dX11_sayNumber_38 (v := 1000) (by decide) ?_
      refine w_idiv dX11_sayNumber_41 (by decide) ?_
      refine w_iadd dX11_sayNumber_42 ?_
      refine w_v1 (d2 := 0) (L2 := 0) dX11_sayNumber_43 vX11_366 rfl (q1.1.lt (by decide)) rfl (by decide) (Nat.le_of_ble_eq_true rfl) (by decide) (by decide) ?_
      refine T_say (by first | omega | (simp only [List.length_append, List.length_cons, List.length_nil]; omega)) f1 q1 (fun h9 f9 q9 => ?_)
      refine k_v rfl ?_
      refine w_iload_n dX11_sayNumber_46 rfl rfl ?_
      refine w_bipush dX11_sayNumber_47 (v := 99) (by decide) ?_
      refine w_icmp_le (tgt := 66) dX11_sayNumber_49 (by decide) (fun c_49 => ?_) (fun c_49 => ?_)
      · refine w_iload_n dX11_sayNumber_66 rfl rfl ?_
        refine w_bipush dX11_sayNumber_67 (v := 9) (by decide) ?_
        refine w_icmp_le (tgt := 86) dX11_sayNumber_69 (by decide) (fun c_69 => ?_) (fun c_69 => ?_)
        · refine w_aload_n dX11_sayNumber_86 rfl rfl ?_
          refine w_bipush dX11_sayNumber_87 (v := 48) (by decide) ?_
          refine w_iload_n dX11_sayNumber_89 rfl rfl ?_
          refine w_bipush dX11_sayNumber_90 (v := 10) (by decide) ?_
          refine w_irem dX11_sayNumber_92 (by decide) ?_
          refine w_iadd dX11_sayNumber_93 ?_
          refine w_v1 (d2 := 0) (L2 := 0) dX11_sayNumber_94 vX11_366 rfl (q9.1.lt (by decide)) rfl (by decide) (Nat.le_of_ble_eq_true rfl) (by decide) (by decide) ?_
          refine T_say (by first | omega | (simp only [List.length_append, List.length_cons, List.length_nil]; omega)) f9 q9 (fun h10 f10 q10 => ?_)
          refine k_v rfl ?_
          refine w_vret dX11_sayNumber_97 ?_
          have hv9 : (if v < 0 then -v else v) = v := if_neg (Int32.not_lt.mpr c_7)
          refine k _ f10 ?_
          unfold nvR
          rw [hv9, if_neg (Int32.not_lt.mpr c_7), if_pos (Int32.not_le.mp c_31), if_neg (Int32.not_lt.mpr c_49), if_neg (Int32.not_lt.mpr c_69)]
          simp only [List.append_assoc, List.cons_append, List.nil_append] at q10
          exact q10
        · refine w_aload_n dX11_sayNumber_72 rfl rfl ?_
          refine w_bipush dX11_sayNumber_73 (v := 48) (by decide) ?_
          refine w_iload_n dX11_sayNumber_75 rfl rfl ?_
          refine w_bipush dX11_sayNumber_76 (v := 10) (by decide) ?_
          refine w_idiv dX11_sayNumber_78 (by decide) ?_
          refine w_bipush dX11_sayNumber_79 (v := 10) (by decide) ?_
          refine w_irem dX11_sayNumber_81 (by decide) ?_
          refine w_iadd dX11_sayNumber_82 ?_
          refine w_v1 (d2 := 0) (L2 := 0) dX11_sayNumber_83 vX11_366 rfl (q9.1.lt (by decide)) rfl (by decide) (Nat.le_of_ble_eq_true rfl) (by decide) (by decide) ?_
          refine T_say (by first | omega | (simp only [List.length_append, List.length_cons, List.length_nil]; omega)) f9 q9 (fun h11 f11 q11 => ?_)
          refine k_v rfl ?_
          refine w_aload_n dX11_sayNumber_86 rfl rfl ?_
          refine w_bipush dX11_sayNumber_87 (v := 48) (by decide) ?_
          refine w_iload_n dX11_sayNumber_89 rfl rfl ?_
          refine w_bipush dX11_sayNumber_90 (v := 10) (by decide) ?_
          refine w_irem dX11_sayNumber_92 (by decide) ?_
          refine w_iadd dX11_sayNumber_93 ?_
          refine w_v1 (d2 := 0) (L2 := 0) dX11_sayNumber_94 vX11_366 rfl (q11.1.lt (by decide)) rfl (by decide) (Nat.le_of_ble_eq_true rfl) (by decide) (by decide) ?_
          refine T_say (by first | omega | (simp only [List.length_append, List.length_cons, List.length_nil]; omega)) f11 q11 (fun h12 f12 q12 => ?_)
          refine k_v rfl ?_
          refine w_vret dX11_sayNumber_97 ?_
          have hv9 : (if v < 0 then -v else v) = v := if_neg (Int32.not_lt.mpr c_7)
          refine k _ f12 ?_
          unfold nvR
          rw [hv9, if_neg (Int32.not_lt.mpr c_7), if_pos (Int32.not_le.mp c_31), if_neg (Int32.not_lt.mpr c_49), if_pos (Int32.not_le.mp c_69)]
          simp only [List.append_assoc, List.cons_append, List.nil_append] at q12
          exact q12
      · refine w_aload_n dX11_sayNumber_52 rfl rfl ?_
        refine w_bipush dX11_sayNumber_53 (v := 48) (by decide) ?_
        refine w_iload_n dX11_sayNumber_55 rfl rfl ?_
        refine w_bipush dX11_sayNumber_56 (v := 100) (by decide) ?_
        refine w_idiv dX11_sayNumber_58 (by decide) ?_
        refine w_bipush dX11_sayNumber_59 (v := 10) (by decide) ?_
        refine w_irem dX11_sayNumber_61 (by decide) ?_
        refine w_iadd dX11_sayNumber_62 ?_
        refine w_v1 (d2 := 0) (L2 := 0) dX11_sayNumber_63 vX11_366 rfl (q9.1.lt (by decide)) rfl (by decide) (Nat.le_of_ble_eq_true rfl) (by decide) (by decide) ?_
        refine T_say (by first | omega | (simp only [List.length_append, List.length_cons, List.length_nil]; omega)) f9 q9 (fun h13 f13 q13 => ?_)
        refine k_v rfl ?_
        refine w_iload_n dX11_sayNumber_66 rfl rfl ?_
        refine w_bipush dX11_sayNumber_67 (v := 9) (by decide) ?_
        refine w_icmp_le (tgt := 86) dX11_sayNumber_69 (by decide) (fun c_69 => ?_) (fun c_69 => ?_)
        · refine w_aload_n dX11_sayNumber_86 rfl rfl ?_
          refine w_bipush dX11_sayNumber_87 (v := 48) (by decide) ?_
          refine w_iload_n dX11_sayNumber_89 rfl rfl ?_
          refine w_bipush dX11_sayNumber_90 (v := 10) (by decide) ?_
          refine w_irem dX11_sayNumber_92 (by decide) ?_
          refine w_iadd dX11_sayNumber_93 ?_
          refine w_v1 (d2 := 0) (L2 := 0) dX11_sayNumber_94 vX11_366 rfl (q13.1.lt (by decide)) rfl (by decide) (Nat.le_of_ble_eq_true rfl) (by decide) (by decide) ?_
          refine T_say (by first | omega | (simp only [List.length_append, List.length_cons, List.length_nil]; omega)) f13 q13 (fun h14 f14 q14 => ?_)
          refine k_v rfl ?_
          refine w_vret dX11_sayNumber_97 ?_
          have hv9 : (if v < 0 then -v else v) = v := if_neg (Int32.not_lt.mpr c_7)
          refine k _ f14 ?_
          unfold nvR
          rw [hv9, if_neg (Int32.not_lt.mpr c_7), if_pos (Int32.not_le.mp c_31), if_pos (Int32.not_le.mp c_49), if_neg (Int32.not_lt.mpr c_69)]
          simp only [List.append_assoc, List.cons_append, List.nil_append] at q14
          exact q14
        · refine w_aload_n dX11_sayNumber_72 rfl rfl ?_
          refine w_bipush dX11_sayNumber_73 (v := 48) (by decide) ?_
          refine w_iload_n dX11_sayNumber_75 rfl rfl ?_
          refine w_bipush dX11_sayNumber_76 (v := 10) (by decide) ?_
          refine w_idiv dX11_sayNumber_78 (by decide) ?_
          refine w_bipush dX11_sayNumber_79 (v := 10) (by decide) ?_
          refine w_irem dX11_sayNumber_81 (by decide) ?_
          refine w_iadd dX11_sayNumber_82 ?_
          refine w_v1 (d2 := 0) (L2 := 0) dX11_sayNumber_83 vX11_366 rfl (q13.1.lt (by decide)) rfl (by decide) (Nat.le_of_ble_eq_true rfl) (by decide) (by decide) ?_
          refine T_say (by first | omega | (simp only [List.length_append, List.length_cons, List.length_nil]; omega)) f13 q13 (fun h15 f15 q15 => ?_)
          refine k_v rfl ?_
          refine w_aload_n dX11_sayNumber_86 rfl rfl ?_
          refine w_bipush dX11_sayNumber_87 (v := 48) (by decide) ?_
          refine w_iload_n dX11_sayNumber_89 rfl rfl ?_
          refine w_bipush dX11_sayNumber_90 (v := 10) (by decide) ?_
          refine w_irem dX11_sayNumber_92 (by decide) ?_
          refine w_iadd dX11_sayNumber_93 ?_
          refine w_v1 (d2 := 0) (L2 := 0) dX11_sayNumber_94 vX11_366 rfl (q15.1.lt (by decide)) rfl (by decide) (Nat.le_of_ble_eq_true rfl) (by decide) (by decide) ?_
          refine T_say (by first | omega | (simp only [List.length_append, List.length_cons, List.length_nil]; omega)) f15 q15 (fun h16 f16 q16 => ?_)
          refine k_v rfl ?_
          refine w_vret dX11_sayNumber_97 ?_
          have hv9 : (if v < 0 then -v else v) = v := if_neg (Int32.not_lt.mpr c_7)
          refine k _ f16 ?_
          unfold nvR
          rw [hv9, if_neg (Int32.not_lt.mpr c_7), if_pos (Int32.not_le.mp c_31), if_pos (Int32.not_le.mp c_49), if_pos (Int32.not_le.mp c_69)]
          simp only [List.append_assoc, List.cons_append, List.nil_append] at q16
          exact q16
  · refine w_aload_n dX11_sayNumber_10 rfl rfl ?_
    refine w_bipush dX11_sayNumber_11 (v := 45) (by decide) ?_
    refine w_v1 (d2 := 0) (L2 := 0) dX11_sayNumber_13 vX11_366 rfl (q1.1.lt (by decide)) rfl (by decide) (Nat.le_of_ble_eq_true rfl) (by decide) (by decide) ?_
    refine T_say (by first | omega | (simp only [List.length_append, List.length_cons, List.length_nil]; omega)) f1 q1 (fun h17 f17 q17 => ?_)
    refine k_v rfl ?_
    refine w_iload_n dX11_sayNumber_16 rfl rfl ?_
    refine w_if_ge (tgt := 25) dX11_sayNumber_17 (by decide) (fun c_17 => absurd c_17 c_7) (fun c_17 => ?_)
    refine w_iload_n dX11_sayNumber_20 rfl rfl ?_
    refine w_ineg dX11_sayNumber_21 ?_
    refine w_goto (tgt := 26) dX11_sayNumber_22 (by decide) ?_
    refine w_istore_n dX11_sayNumber_26 rfl (by decide) ?_
    refine w_iload_n dX11_sayNumber_27 rfl rfl ?_
    refine w_sipush dX11_sayNumber_28 (v := 999) (by decide) ?_
    refine w_icmp_le (tgt := 46) dX11_sayNumber_31 (by decide) (fun c_31 => ?_) (fun c_31 => ?_)
    · refine w_iload_n dX11_sayNumber_46 rfl rfl ?_
      refine w_bipush dX11_sayNumber_47 (v := 99) (by decide) ?_
      refine w_icmp_le (tgt := 66) dX11_sayNumber_49 (by decide) (fun c_49 => ?_) (fun c_49 => ?_)
      · refine w_iload_n dX11_sayNumber_66 rfl rfl ?_
        refine w_bipush dX11_sayNumber_67 (v := 9) (by decide) ?_
        refine w_icmp_le (tgt := 86) dX11_sayNumber_69 (by decide) (fun c_69 => ?_) (fun c_69 => ?_)
        · refine w_aload_n dX11_sayNumber_86 rfl rfl ?_
          refine w_bipush dX11_sayNumber_87 (v := 48) (by decide) ?_
          refine w_iload_n dX11_sayNumber_89 rfl rfl ?_
          refine w_bipush dX11_sayNumber_90 (v := 10) (by decide) ?_
          refine w_irem dX11_sayNumber_92 (by decide) ?_
          refine w_iadd dX11_sayNumber_93 ?_
          refine w_v1 (d2 := 0) (L2 := 0) dX11_sayNumber_94 vX11_366 rfl (q17.1.lt (by decide)) rfl (by decide) (Nat.le_of_ble_eq_true rfl) (by decide) (by decide) ?_
          refine T_say (by first | omega | (simp only [List.length_append, List.length_cons, List.length_nil]; omega)) f17 q17 (fun h18 f18 q18 => ?_)
          refine k_v rfl ?_
          refine w_vret dX11_sayNumber_97 ?_
          have hv9 : (if v < 0 then -v else v) = (-v) := if_pos (Int32.not_le.mp c_7)
          refine k _ f18 ?_
          unfold nvR
          rw [hv9, if_pos (Int32.not_le.mp c_7), if_neg (Int32.not_lt.mpr c_31), if_neg (Int32.not_lt.mpr c_49), if_neg (Int32.not_lt.mpr c_69)]
          simp only [List.append_assoc, List.cons_append, List.nil_append] at q18
          exact q18
        · refine w_aload_n dX11_sayNumber_72 rfl rfl ?_
          refine w_bipush dX11_sayNumber_73 (v := 48) (by decide) ?_
          refine w_iload_n dX11_sayNumber_75 rfl rfl ?_
          refine w_bipush dX11_sayNumber_76 (v := 10) (by decide) ?_
          refine w_idiv dX11_sayNumber_78 (by decide) ?_
          refine w_bipush dX11_sayNumber_79 (v := 10) (by decide) ?_
          refine w_irem dX11_sayNumber_81 (by decide) ?_
          refine w_iadd dX11_sayNumber_82 ?_
          refine w_v1 (d2 := 0) (L2 := 0) dX11_sayNumber_83 vX11_366 rfl (q17.1.lt (by decide)) rfl (by decide) (Nat.le_of_ble_eq_true rfl) (by decide) (by decide) ?_
          refine T_say (by first | omega | (simp only [List.length_append, List.length_cons, List.length_nil]; omega)) f17 q17 (fun h19 f19 q19 => ?_)
          refine k_v rfl ?_
          refine w_aload_n dX11_sayNumber_86 rfl rfl ?_
          refine w_bipush dX11_sayNumber_87 (v := 48) (by decide) ?_
          refine w_iload_n dX11_sayNumber_89 rfl rfl ?_
          refine w_bipush dX11_sayNumber_90 (v := 10) (by decide) ?_
          refine w_irem dX11_sayNumber_92 (by decide) ?_
          refine w_iadd dX11_sayNumber_93 ?_
          refine w_v1 (d2 := 0) (L2 := 0) dX11_sayNumber_94 vX11_366 rfl (q19.1.lt (by decide)) rfl (by decide) (Nat.le_of_ble_eq_true rfl) (by decide) (by decide) ?_
          refine T_say (by first | omega | (simp only [List.length_append, List.length_cons, List.length_nil]; omega)) f19 q19 (fun h20 f20 q20 => ?_)
          refine k_v rfl ?_
          refine w_vret dX11_sayNumber_97 ?_
          have hv9 : (if v < 0 then -v else v) = (-v) := if_pos (Int32.not_le.mp c_7)
          refine k _ f20 ?_
          unfold nvR
          rw [hv9, if_pos (Int32.not_le.mp c_7), if_neg (Int32.not_lt.mpr c_31), if_neg (Int32.not_lt.mpr c_49), if_pos (Int32.not_le.mp c_69)]
          simp only [List.append_assoc, List.cons_append, List.nil_append] at q20
          exact q20
      · refine w_aload_n dX11_sayNumber_52 rfl rfl ?_
        refine w_bipush dX11_sayNumber_53 (v := 48) (by decide) ?_
        refine w_iload_n dX11_sayNumber_55 rfl rfl ?_
        refine w_bipush dX11_sayNumber_56 (v := 100) (by decide) ?_
        refine w_idiv dX11_sayNumber_58 (by decide) ?_
        refine w_bipush dX11_sayNumber_59 (v := 10) (by decide) ?_
        refine w_irem dX11_sayNumber_61 (by decide) ?_
        refine w_iadd dX11_sayNumber_62 ?_
        refine w_v1 (d2 := 0) (L2 := 0) dX11_sayNumber_63 vX11_366 rfl (q17.1.lt (by decide)) rfl (by decide) (Nat.le_of_ble_eq_true rfl) (by decide) (by decide) ?_
        refine T_say (by first | omega | (simp only [List.length_append, List.length_cons, List.length_nil]; omega)) f17 q17 (fun h21 f21 q21 => ?_)
        refine k_v rfl ?_
        refine w_iload_n dX11_sayNumber_66 rfl rfl ?_
        refine w_bipush dX11_sayNumber_67 (v := 9) (by decide) ?_
        refine w_icmp_le (tgt := 86) dX11_sayNumber_69 (by decide) (fun c_69 => ?_) (fun c_69 => ?_)
        · refine w_aload_n dX11_sayNumber_86 rfl rfl ?_
          refine w_bipush dX11_sayNumber_87 (v := 48) (by decide) ?_
          refine w_iload_n dX11_sayNumber_89 rfl rfl ?_
          refine w_bipush dX11_sayNumber_90 (v := 10) (by decide) ?_
          refine w_irem dX11_sayNumber_92 (by decide) ?_
          refine w_iadd dX11_sayNumber_93 ?_
          refine w_v1 (d2 := 0) (L2 := 0) dX11_sayNumber_94 vX11_366 rfl (q21.1.lt (by decide)) rfl (by decide) (Nat.le_of_ble_eq_true rfl) (by decide) (by decide) ?_
          refine T_say (by first | omega | (simp only [List.length_append, List.length_cons, List.length_nil]; omega)) f21 q21 (fun h22 f22 q22 => ?_)
          refine k_v rfl ?_
          refine w_vret dX11_sayNumber_97 ?_
          have hv9 : (if v < 0 then -v else v) = (-v) := if_pos (Int32.not_le.mp c_7)
          refine k _ f22 ?_
          unfold nvR
          rw [hv9, if_pos (Int32.not_le.mp c_7), if_neg (Int32.not_lt.mpr c_31), if_pos (Int32.not_le.mp c_49), if_neg (Int32.not_lt.mpr c_69)]
          simp only [List.append_assoc, List.cons_append, List.nil_append] at q22
          exact q22
        · refine w_aload_n dX11_sayNumber_72 rfl rfl ?_
          refine w_bipush dX11_sayNumber_73 (v := 48) (by decide) ?_
          refine w_iload_n dX11_sayNumber_75 rfl rfl ?_
          refine w_bipush dX11_sayNumber_76 (v := 10) (by decide) ?_
          refine w_idiv dX11_sayNumber_78 (by decide) ?_
          refine w_bipush dX11_sayNumber_79 (v := 10) (by decide) ?_
          refine w_irem dX11_sayNumber_81 (by decide) ?_
          refine w_iadd dX11_sayNumber_82 ?_
          refine w_v1 (d2 := 0) (L2 := 0) dX11_sayNumber_83 vX11_366 rfl (q21.1.lt (by decide)) rfl (by decide) (Nat.le_of_ble_eq_true rfl) (by decide) (by decide) ?_
          refine T_say (by first | omega | (simp only [List.length_append, List.length_cons, List.length_nil]; omega)) f21 q21 (fun h23 f23 q23 => ?_)
          refine k_v rfl ?_
          refine w_aload_n dX11_sayNumber_86 rfl rfl ?_
          refine w_bipush dX11_sayNumber_87 (v := 48) (by decide) ?_
          refine w_iload_n dX11_sayNumber_89 rfl rfl ?_
          refine w_bipush dX11_sayNumber_90 (v := 10) (by decide) ?_
          refine w_irem dX11_sayNumber_92 (by decide) ?_
          refine w_iadd dX11_sayNumber_93 ?_
          refine w_v1 (d2 := 0) (L2 := 0) dX11_sayNumber_94 vX11_366 rfl (q23.1.lt (by decide)) rfl (by decide) (Nat.le_of_ble_eq_true rfl) (by decide) (by decide) ?_
          refine T_say (by first | omega | (simp only [List.length_append, List.length_cons, List.length_nil]; omega)) f23 q23 (fun h24 f24 q24 => ?_)
          refine k_v rfl ?_
          refine w_vret dX11_sayNumber_97 ?_
          have hv9 : (if v < 0 then -v else v) = (-v) := if_pos (Int32.not_le.mp c_7)
          refine k _ f24 ?_
          unfold nvR
          rw [hv9, if_pos (Int32.not_le.mp c_7), if_neg (Int32.not_lt.mpr c_31), if_pos (Int32.not_le.mp c_49), if_pos (Int32.not_le.mp c_69)]
          simp only [List.append_assoc, List.cons_append, List.nil_append] at q24
          exact q24
    · refine w_aload_n dX11_sayNumber_34 rfl rfl ?_
      refine w_bipush dX11_sayNumber_35 (v := 48) (by decide) ?_
      refine w_iload_n dX11_sayNumber_37 rfl rfl ?_
      refine w_sipush dX11_sayNumber_38 (v := 1000) (by decide) ?_
      refine w_idiv dX11_sayNumber_41 (by decide) ?_
      refine w_iadd dX11_sayNumber_42 ?_
      refine w_v1 (d2 := 0) (L2 := 0) dX11_sayNumber_43 vX11_366 rfl (q17.1.lt (by decide)) rfl (by decide) (Nat.le_of_ble_eq_true rfl) (by decide) (by decide) ?_
      refine T_say (by first | omega | (simp only [List.length_append, List.length_cons, List.length_nil]; omega)) f17 q17 (fun h25 f25 q25 => ?_)
      refine k_v rfl ?_
      refine w_iload_n dX11_sayNumber_46 rfl rfl ?_
      refine w_bipush dX11_sayNumber_47 (v := 99) (by decide) ?_
      refine w_icmp_le (tgt := 66) dX11_sayNumber_49 (by decide) (fun c_49 => ?_) (fun c_49 => ?_)
      · refine w_iload_n dX11_sayNumber_66 rfl rfl ?_
        refine w_bipush dX11_sayNumber_67 (v := 9) (by decide) ?_
        refine w_icmp_le (tgt := 86) dX11_sayNumber_69 (by decide) (fun c_69 => ?_) (fun c_69 => ?_)
        · refine w_aload_n dX11_sayNumber_86 rfl rfl ?_
          refine w_bipush dX11_sayNumber_87 (v := 48) (by decide) ?_
          refine w_iload_n dX11_sayNumber_89 rfl rfl ?_
          refine w_bipush dX11_sayNumber_90 (v := 10) (by decide) ?_
          refine w_irem dX11_sayNumber_92 (by decide) ?_
          refine w_iadd dX11_sayNumber_93 ?_
          refine w_v1 (d2 := 0) (L2 := 0) dX11_sayNumber_94 vX11_366 rfl (q25.1.lt (by decide)) rfl (by decide) (Nat.le_of_ble_eq_true rfl) (by decide) (by decide) ?_
          refine T_say (by first | omega | (simp only [List.length_append, List.length_cons, List.length_nil]; omega)) f25 q25 (fun h26 f26 q26 => ?_)
          refine k_v rfl ?_
          refine w_vret dX11_sayNumber_97 ?_
          have hv9 : (if v < 0 then -v else v) = (-v) := if_pos (Int32.not_le.mp c_7)
          refine k _ f26 ?_
          unfold nvR
          rw [hv9, if_pos (Int32.not_le.mp c_7), if_pos (Int32.not_le.mp c_31), if_neg (Int32.not_lt.mpr c_49), if_neg (Int32.not_lt.mpr c_69)]
          simp only [List.append_assoc, List.cons_append, List.nil_append] at q26
          exact q26
        · refine w_aload_n dX11_sayNumber_72 rfl rfl ?_
          refine w_bipush dX11_sayNumber_73 (v := 48) (by decide) ?_
          refine w_iload_n dX11_sayNumber_75 rfl rfl ?_
          refine w_bipush dX11_sayNumber_76 (v := 10) (by decide) ?_
          refine w_idiv dX11_sayNumber_78 (by decide) ?_
          refine w_bipush dX11_sayNumber_79 (v := 10) (by decide) ?_
          refine w_irem dX11_sayNumber_81 (by decide) ?_
          refine w_iadd dX11_sayNumber_82 ?_
          refine w_v1 (d2 := 0) (L2 := 0) dX11_sayNumber_83 vX11_366 rfl (q25.1.lt (by decide)) rfl (by decide) (Nat.le_of_ble_eq_true rfl) (by decide) (by decide) ?_
          refine T_say (by first | omega | (simp only [List.length_append, List.length_cons, List.length_nil]; omega)) f25 q25 (fun h27 f27 q27 => ?_)
          refine k_v rfl ?_
          refine w_aload_n dX11_sayNumber_86 rfl rfl ?_
          refine w_bipush dX11_sayNumber_87 (v := 48) (by decide) ?_
          refine w_iload_n dX11_sayNumber_89 rfl rfl ?_
          refine w_bipush dX11_sayNumber_90 (v := 10) (by decide) ?_
          refine w_irem dX11_sayNumber_92 (by decide) ?_
          refine w_iadd dX11_sayNumber_93 ?_
          refine w_v1 (d2 := 0) (L2 := 0) dX11_sayNumber_94 vX11_366 rfl (q27.1.lt (by decide)) rfl (by decide) (Nat.le_of_ble_eq_true rfl) (by decide) (by decide) ?_
          refine T_say (by first | omega | (simp only [List.length_append, List.length_cons, List.length_nil]; omega)) f27 q27 (fun h28 f28 q28 => ?_)
          refine k_v rfl ?_
          refine w_vret dX11_sayNumber_97 ?_
          have hv9 : (if v < 0 then -v else v) = (-v) := if_pos (Int32.not_le.mp c_7)
          refine k _ f28 ?_
          unfold nvR
          rw [hv9, if_pos (Int32.not_le.mp c_7), if_pos (Int32.not_le.mp c_31), if_neg (Int32.not_lt.mpr c_49), if_pos (Int32.not_le.mp c_69)]
          simp only [List.append_assoc, List.cons_append, List.nil_append] at q28
          exact q28
      · refine w_aload_n dX11_sayNumber_52 rfl rfl ?_
        refine w_bipush dX11_sayNumber_53 (v := 48) (by decide) ?_
        refine w_iload_n dX11_sayNumber_55 rfl rfl ?_
        refine w_bipush dX11_sayNumber_56 (v := 100) (by decide) ?_
        refine w_idiv dX11_sayNumber_58 (by decide) ?_
        refine w_bipush dX11_sayNumber_59 (v := 10) (by decide) ?_
        refine w_irem dX11_sayNumber_61 (by decide) ?_
        refine w_iadd dX11_sayNumber_62 ?_
        refine w_v1 (d2 := 0) (L2 := 0) dX11_sayNumber_63 vX11_366 rfl (q25.1.lt (by decide)) rfl (by decide) (Nat.le_of_ble_eq_true rfl) (by decide) (by decide) ?_
        refine T_say (by first | omega | (simp only [List.length_append, List.length_cons, List.length_nil]; omega)) f25 q25 (fun h29 f29 q29 => ?_)
        refine k_v rfl ?_
        refine w_iload_n dX11_sayNumber_66 rfl rfl ?_
        refine w_bipush dX11_sayNumber_67 (v := 9) (by decide) ?_
        refine w_icmp_le (tgt := 86) dX11_sayNumber_69 (by decide) (fun c_69 => ?_) (fun c_69 => ?_)
        · refine w_aload_n dX11_sayNumber_86 rfl rfl ?_
          refine w_bipush dX11_sayNumber_87 (v := 48) (by decide) ?_
          refine w_iload_n dX11_sayNumber_89 rfl rfl ?_
          refine w_bipush dX11_sayNumber_90 (v := 10) (by decide) ?_
          refine w_irem dX11_sayNumber_92 (by decide) ?_
          refine w_iadd dX11_sayNumber_93 ?_
          refine w_v1 (d2 := 0) (L2 := 0) dX11_sayNumber_94 vX11_366 rfl (q29.1.lt (by decide)) rfl (by decide) (Nat.le_of_ble_eq_true rfl) (by decide) (by decide) ?_
          refine T_say (by first | omega | (simp only [List.length_append, List.length_cons, List.length_nil]; omega)) f29 q29 (fun h30 f30 q30 => ?_)
          refine k_v rfl ?_
          refine w_vret dX11_sayNumber_97 ?_
          have hv9 : (if v < 0 then -v else v) = (-v) := if_pos (Int32.not_le.mp c_7)
          refine k _ f30 ?_
          unfold nvR
          rw [hv9, if_pos (Int32.not_le.mp c_7), if_pos (Int32.not_le.mp c_31), if_pos (Int32.not_le.mp c_49), if_neg (Int32.not_lt.mpr c_69)]
          simp only [List.append_assoc, List.cons_append, List.nil_append] at q30
          exact q30
        · refine w_aload_n dX11_sayNumber_72 rfl rfl ?_
          refine w_bipush dX11_sayNumber_73 (v := 48) (by decide) ?_
          refine w_iload_n dX11_sayNumber_75 rfl rfl ?_
          refine w_bipush dX11_sayNumber_76 (v := 10) (by decide) ?_
          refine w_idiv dX11_sayNumber_78 (by decide) ?_
          refine w_bipush dX11_sayNumber_79 (v := 10) (by decide) ?_
          refine w_irem dX11_sayNumber_81 (by decide) ?_
          refine w_iadd dX11_sayNumber_82 ?_
          refine w_v1 (d2 := 0) (L2 := 0) dX11_sayNumber_83 vX11_366 rfl (q29.1.lt (by decide)) rfl (by decide) (Nat.le_of_ble_eq_true rfl) (by decide) (by decide) ?_
          refine T_say (by first | omega | (simp only [List.length_append, List.length_cons, List.length_nil]; omega)) f29 q29 (fun h31 f31 q31 => ?_)
          refine k_v rfl ?_
          refine w_aload_n dX11_sayNumber_86 rfl rfl ?_
          refine w_bipush dX11_sayNumber_87 (v := 48) (by decide) ?_
          refine w_iload_n dX11_sayNumber_89 rfl rfl ?_
          refine w_bipush dX11_sayNumber_90 (v := 10) (by decide) ?_
          refine w_irem dX11_sayNumber_92 (by decide) ?_
          refine w_iadd dX11_sayNumber_93 ?_
          refine w_v1 (d2 := 0) (L2 := 0) dX11_sayNumber_94 vX11_366 rfl (q31.1.lt (by decide)) rfl (by decide) (Nat.le_of_ble_eq_true rfl) (by decide) (by decide) ?_
          refine T_say (by first | omega | (simp only [List.length_append, List.length_cons, List.length_nil]; omega)) f31 q31 (fun h32 f32 q32 => ?_)
          refine k_v rfl ?_
          refine w_vret dX11_sayNumber_97 ?_
          have hv9 : (if v < 0 then -v else v) = (-v) := if_pos (Int32.not_le.mp c_7)
          refine k _ f32 ?_
          unfold nvR
          rw [hv9, if_pos (Int32.not_le.mp c_7), if_pos (Int32.not_le.mp c_31), if_pos (Int32.not_le.mp c_49), if_pos (Int32.not_le.mp c_69)]
          simp only [List.append_assoc, List.cons_append, List.nil_append] at q32
          exact q32

set_option maxRecDepth 20000 in
set_option maxHeartbeats 4000000 in
theorem L_hx {X : Nat × (Nat → Int32)} {h0 h : PH} {Q : Option Value → PH → Prop} {L : List Int32} {v : Int32} {d9 : Int32} {x1 : Int32} {x4 : Option Value} (hd : d9 = 0 ∨ d9 = 1 ∨ d9 = 2 ∨ d9 = 3) (hl : L.length < 40) (f : FW h0 h) (q : LW h L) (k : ∀ h' x, FW h0 h' → LW h' (L ++ [hxD v d9]) → WP X mX11_sayHex 1 21 51 [some (.ref 25), some (.int v), some (.int x1), some (.int d9), x] [] h' Q) : WP X mX11_sayHex 1 21 14 [some (.ref 25), some (.int v), some (.int x1), some (.int d9), x4] [] h Q := by
  refine w_iload_n dX11_sayHex_14 rfl rfl ?_
  refine w_iconst dX11_sayHex_15 (v := 4) (by decide) ?_
  refine w_iload_n dX11_sayHex_16 rfl rfl ?_
  refine w_imul dX11_sayHex_17 ?_
  refine w_ishr dX11_sayHex_18 ?_
  refine w_bipush dX11_sayHex_19 (v := 15) (by decide) ?_
  refine w_iand dX11_sayHex_21 ?_
  obtain ⟨j, hj, ej⟩ := pk_andE (v >>> ((4 * d9) &&& 31)) (m := 15) 4 (by decide)
  have xe := (hx_e j (by omega)).1
  have xd : hxD v d9 = (sB 4).getD j 0 := by unfold hxD; rw [ej, nI_clamp (by omega)]
  rw [ej]
  refine w_istore dX11_sayHex_22 (by decide) ?_
  refine w_aload_n dX11_sayHex_24 rfl rfl ?_
  refine w_iload dX11_sayHex_25 rfl ?_
  refine w_bipush dX11_sayHex_27 (v := 10) (by decide) ?_
  refine w_icmp_ge (tgt := 40) dX11_sayHex_29 (by decide) (fun c_29 => ?_) (fun c_29 => ?_)
  · refine w_bipush dX11_sayHex_40 (v := 65) (by decide) ?_
    refine w_iload dX11_sayHex_42 rfl ?_
    refine w_iadd dX11_sayHex_44 ?_
    refine w_bipush dX11_sayHex_45 (v := 10) (by decide) ?_
    refine w_isub dX11_sayHex_47 ?_
    refine w_v1 (d2 := 0) (L2 := 0) dX11_sayHex_48 vX11_366 rfl (q.1.lt (by decide)) rfl (by decide) (Nat.le_of_ble_eq_true rfl) (by decide) (by decide) ?_
    refine T_say (hl) f q (fun h1 f1 q1 => ?_)
    refine k_v rfl ?_
    rw [if_neg (Int32.not_lt.mpr c_29)] at xe
    rw [xe, ← xd] at q1
    exact k _ _ f1 q1
  · refine w_bipush dX11_sayHex_32 (v := 48) (by decide) ?_
    refine w_iload dX11_sayHex_34 rfl ?_
    refine w_iadd dX11_sayHex_36 ?_
    refine w_goto (tgt := 48) dX11_sayHex_37 (by decide) ?_
    refine w_v1 (d2 := 0) (L2 := 0) dX11_sayHex_48 vX11_366 rfl (q.1.lt (by decide)) rfl (by decide) (Nat.le_of_ble_eq_true rfl) (by decide) (by decide) ?_
    refine T_say (hl) f q (fun h2 f2 q2 => ?_)
    refine k_v rfl ?_
    rw [if_pos (Int32.not_le.mp c_29)] at xe
    rw [xe, ← xd] at q2
    exact k _ _ f2 q2

set_option maxRecDepth 20000 in
set_option maxHeartbeats 4000000 in
theorem T_shx2 {X : Nat × (Nat → Int32)} {h0 h : PH} {Q : Option Value → PH → Prop} {L : List Int32} {v : Int32} (hl : L.length + 5 ≤ 40) (f : FW h0 h) (q : LW h L) (k : ∀ h', FW h0 h' → LW h' (L ++ hx2 v) → Q none h') : WP X mX11_sayHex 1 21 0 (en 5 [.ref 25, .int v, .int 2]) [] h Q := by
  refine w_aload_n dX11_sayHex_0 rfl rfl ?_
  refine w_bipush dX11_sayHex_1 (v := 120) (by decide) ?_
  refine w_v1 (d2 := 0) (L2 := 0) dX11_sayHex_3 vX11_366 rfl (q.1.lt (by decide)) rfl (by decide) (Nat.le_of_ble_eq_true rfl) (by decide) (by decide) ?_
  refine T_say (by first | omega | (simp only [List.length_append, List.length_cons, List.length_nil]; omega)) f q (fun h1 f1 q1 => ?_)
  refine k_v rfl ?_
  refine w_iload_n dX11_sayHex_6 rfl rfl ?_
  refine w_iconst dX11_sayHex_7 (v := 1) (by decide) ?_
  refine w_isub dX11_sayHex_8 ?_
  rw [show (2 : Int32) - 1 = 1 from by decide]
  refine w_istore_n dX11_sayHex_9 rfl (by decide) ?_
  refine w_iload_n dX11_sayHex_10 rfl rfl ?_
  refine w_if_lt (tgt := 57) dX11_sayHex_11 (by decide) (fun c_11 => absurd c_11 (by decide)) (fun c_11 => ?_)
  refine L_hx (d9 := 1) (by decide) (by first | omega | (simp only [List.length_append, List.length_cons, List.length_nil]; omega)) f1 q1 (fun hz1 xz1 fz1 qz1 => ?_)
  refine w_iinc (v := 0) dX11_sayHex_51 rfl (by decide) (by decide) ?_
  refine w_goto (tgt := 10) dX11_sayHex_54 (by decide) ?_
  refine w_iload_n dX11_sayHex_10 rfl rfl ?_
  refine w_if_lt (tgt := 57) dX11_sayHex_11 (by decide) (fun c_11 => absurd c_11 (by decide)) (fun c_11 => ?_)
  refine L_hx (d9 := 0) (by decide) (by first | omega | (simp only [List.length_append, List.length_cons, List.length_nil]; omega)) fz1 qz1 (fun hz0 xz0 fz0 qz0 => ?_)
  refine w_iinc (v := (-1)) dX11_sayHex_51 rfl (by decide) (by decide) ?_
  refine w_goto (tgt := 10) dX11_sayHex_54 (by decide) ?_
  refine w_iload_n dX11_sayHex_10 rfl rfl ?_
  refine w_if_lt (tgt := 57) dX11_sayHex_11 (by decide) (fun c_11 => ?_) (fun c_11 => absurd c_11 (by decide))
  refine w_vret dX11_sayHex_57 ?_
  simp only [List.append_assoc, List.cons_append, List.nil_append] at qz0
  exact k _ fz0 qz0

set_option maxRecDepth 20000 in
set_option maxHeartbeats 4000000 in
theorem T_shx4 {X : Nat × (Nat → Int32)} {h0 h : PH} {Q : Option Value → PH → Prop} {L : List Int32} {v : Int32} (hl : L.length + 5 ≤ 40) (f : FW h0 h) (q : LW h L) (k : ∀ h', FW h0 h' → LW h' (L ++ hx4 v) → Q none h') : WP X mX11_sayHex 1 21 0 (en 5 [.ref 25, .int v, .int 4]) [] h Q := by
  refine w_aload_n dX11_sayHex_0 rfl rfl ?_
  refine w_bipush dX11_sayHex_1 (v := 120) (by decide) ?_
  refine w_v1 (d2 := 0) (L2 := 0) dX11_sayHex_3 vX11_366 rfl (q.1.lt (by decide)) rfl (by decide) (Nat.le_of_ble_eq_true rfl) (by decide) (by decide) ?_
  refine T_say (by first | omega | (simp only [List.length_append, List.length_cons, List.length_nil]; omega)) f q (fun h1 f1 q1 => ?_)
  refine k_v rfl ?_
  refine w_iload_n dX11_sayHex_6 rfl rfl ?_
  refine w_iconst dX11_sayHex_7 (v := 1) (by decide) ?_
  refine w_isub dX11_sayHex_8 ?_
  rw [show (4 : Int32) - 1 = 3 from by decide]
  refine w_istore_n dX11_sayHex_9 rfl (by decide) ?_
  refine w_iload_n dX11_sayHex_10 rfl rfl ?_
  refine w_if_lt (tgt := 57) dX11_sayHex_11 (by decide) (fun c_11 => absurd c_11 (by decide)) (fun c_11 => ?_)
  refine L_hx (d9 := 3) (by decide) (by first | omega | (simp only [List.length_append, List.length_cons, List.length_nil]; omega)) f1 q1 (fun hz3 xz3 fz3 qz3 => ?_)
  refine w_iinc (v := 2) dX11_sayHex_51 rfl (by decide) (by decide) ?_
  refine w_goto (tgt := 10) dX11_sayHex_54 (by decide) ?_
  refine w_iload_n dX11_sayHex_10 rfl rfl ?_
  refine w_if_lt (tgt := 57) dX11_sayHex_11 (by decide) (fun c_11 => absurd c_11 (by decide)) (fun c_11 => ?_)
  refine L_hx (d9 := 2) (by decide) (by first | omega | (simp only [List.length_append, List.length_cons, List.length_nil]; omega)) fz3 qz3 (fun hz2 xz2 fz2 qz2 => ?_)
  refine w_iinc (v := 1) dX11_sayHex_51 rfl (by decide) (by decide) ?_
  refine w_goto (tgt := 10) dX11_sayHex_54 (by decide) ?_
  refine w_iload_n dX11_sayHex_10 rfl rfl ?_
  refine w_if_lt (tgt := 57) dX11_sayHex_11 (by decide) (fun c_11 => absurd c_11 (by decide)) (fun c_11 => ?_)
  refine L_hx (d9 := 1) (by decide) (by first | omega | (simp only [List.length_append, List.length_cons, List.length_nil]; omega)) fz2 qz2 (fun hz1 xz1 fz1 qz1 => ?_)
  refine w_iinc (v := 0) dX11_sayHex_51 rfl (by decide) (by decide) ?_
  refine w_goto (tgt := 10) dX11_sayHex_54 (by decide) ?_
  refine w_iload_n dX11_sayHex_10 rfl rfl ?_
  refine w_if_lt (tgt := 57) dX11_sayHex_11 (by decide) (fun c_11 => absurd c_11 (by decide)) (fun c_11 => ?_)
  refine L_hx (d9 := 0) (by decide) (by first | omega | (simp only [List.length_append, List.length_cons, List.length_nil]; omega)) fz1 qz1 (fun hz0 xz0 fz0 qz0 => ?_)
  refine w_iinc (v := (-1)) dX11_sayHex_51 rfl (by decide) (by decide) ?_
  refine w_goto (tgt := 10) dX11_sayHex_54 (by decide) ?_
  refine w_iload_n dX11_sayHex_10 rfl rfl ?_
  refine w_if_lt (tgt := 57) dX11_sayHex_11 (by decide) (fun c_11 => ?_) (fun c_11 => absurd c_11 (by decide))
  refine w_vret dX11_sayHex_57 ?_
  simp only [List.append_assoc, List.cons_append, List.nil_append] at qz0
  exact k _ fz0 qz0

