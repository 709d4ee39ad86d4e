/-! THE CONSTRUCTORS, from a heap with nothing of ours in it to all that the law's loop works on -/
theorem cXrow : Jvm.Cond.classLink RX4 11 "[I" ∈ Tg := (tg 182 (by decide +kernel) (by decide +kernel))
section NW9
variable {X : Nat × (Nat → Int32)} {M : MR} {d L pc a N idx ci : Nat} {n : Int32} {ls : List (Option Value)} {st : List Value} {h : PH} {Q : Option Value → PH → Prop}
theorem n_new {C : String} {T : u_T} (hd : decode M.2.1 pc = .ok (.new idx, 3)) (hcl : CL ci C T N) (hw : Jvm.Cond.classLink M.1 idx C ∈ Tg) (hw2 : Jvm.Cond.instantiable C N ∈ Tg) (hw3 : Jvm.Cond.initialized C ∈ Tg) (ha : hn h = a) (hk : kd a = ci) (hlt : a < 1000000) (kk : WP X M d L (pc + 3) ls (.ref a :: st) (sN h N) Q) : WP X M d L pc ls st h Q := by
  subst ha; exact w_new hd hcl hw hw2 hw3 hk hlt kk
theorem n_newI (hd : decode M.2.1 pc = .ok (.newarray .int, 2)) (hw : Jvm.Cond.arrayClass .int ∈ Tg) (ha : hn h = a) (hk : kd a = 12) (hl : ln a = N) (hn0 : ¬ n < 0) (hN : n.toNatClampNeg = N) (hby : N * 4 ≤ 536870912) (hlt : a < 1000000) (kk : WP X M d L (pc + 2) ls (.ref a :: st) (sN h N) Q) : WP X M d L pc ls (.int n :: st) h Q := by
  subst ha; exact w_newI hd hw hk hl hn0 hN hby hlt kk
theorem n_newB (hd : decode M.2.1 pc = .ok (.newarray .byte, 2)) (hw : Jvm.Cond.arrayClass .byte ∈ Tg) (ha : hn h = a) (hk : kd a = 11) (hl : ln a = N) (hn0 : ¬ n < 0) (hN : n.toNatClampNeg = N) (hby : N * 1 ≤ 536870912) (hlt : a < 1000000) (kk : WP X M d L (pc + 2) ls (.ref a :: st) (sN h N) Q) : WP X M d L pc ls (.int n :: st) h Q := by
  subst ha; exact w_newB hd hw hk hl hn0 hN hby hlt kk
theorem n_newL (hd : decode M.2.1 pc = .ok (.newarray .long, 2)) (hw : Jvm.Cond.arrayClass .long ∈ Tg) (ha : hn h = a) (hk : kd a = 13) (hl : ln a = N) (hn0 : ¬ n < 0) (hN : n.toNatClampNeg = N) (hby : N * 8 ≤ 536870912) (hlt : a < 1000000) (kk : WP X M d L (pc + 2) ls (.ref a :: st) (sN h N) Q) : WP X M d L pc ls (.int n :: st) h Q := by
  subst ha; exact w_newL hd hw hk hl hn0 hN hby hlt kk
theorem n_newR (hd : decode M.2.1 pc = .ok (.anewarray idx, 3)) (hw : Jvm.Cond.classLink M.1 idx "[I" ∈ Tg) (ha : hn h = a) (hk : kd a = 14) (hl : ln a = N) (hn0 : ¬ n < 0) (hN : n.toNatClampNeg = N) (hby : N * 4 ≤ 536870912) (hlt : a < 1000000) (kk : WP X M d L (pc + 3) ls (.ref a :: st) (sN h N) Q) : WP X M d L pc ls (.int n :: st) h Q := by
  subst ha; exact w_newR hd hw hk hl hn0 hN hby hlt kk
theorem e_ias {i x : Int32} {k9 : Nat} (hd : decode M.2.1 pc = .ok (.iastore, 1)) (hk : kd a = 12) (ha : a < hn h) (hi : i.toNatClampNeg = k9) (hin : vp_in i (ln a)) (kk : WP X M d L (pc + 1) ls st (sI h a k9 x) Q) : WP X M d L pc ls (.int x :: .int i :: .ref a :: st) h Q := by
  subst hi; exact w_iastore hd hk ha hin kk
end NW9
/-- the heap before anything is made -/
def h00 : PH := (fun _ _ => 0, fun _ _ => 0, fun _ _ => none, 0, 0, 0)
def zA : PH := (sR (sR (sR (sN (sN (sN (sR (sI (sI (sI (sI (sI (sI (sI (sI (sI (sI (sI (sI (sI (sI (sR (sR (sN (sN (sR (sR (sN (sN (sR (sR (sN (sN (sR (sN (sR (sN (sN (sR (sR (sR (sN (sR (sI (sR (sR (sN (sR (sN (sN (sR (sR (sN (sR (sN (sN (sR (sN (sR (sN (sN (sR (sR (sN (sN (sN h00 4) 2) 4000) 1 0 (some 2)) 0 0 (some 1)) 13) 200) 3 2 (some 4)) 200) 3 3 (some 5)) 5) 4096) 6 0 (some 7)) 200) 6 1 (some 8)) 3 4 (some 6)) 5) 4096) 9 0 (some 10)) 200) 9 1 (some 11)) 3 5 (some 9)) 3 8 (-1)) 3 0 (some 1)) 8) 12 0 (some 1)) 3 1 (some 12)) 0 1 (some 3)) 7) 12) 13 0 (some 14)) 4) 13 1 (some 15)) 1) 256) 16 0 (some 17)) 13 2 (some 16)) 5) 100) 18 0 (some 19)) 13 3 (some 18)) 3) 4000) 20 0 (some 21)) 13 4 (some 20)) 13 5 (0)) 13 6 (-1)) 14 0 (0)) 14 1 (0)) 14 2 (0)) 14 3 (0)) 14 4 (0)) 14 5 (0)) 14 6 (0)) 14 7 (0)) 14 8 (12288)) 14 9 (32770)) 14 10 (12288)) 14 11 (65024)) 0 2 (some 13)) 1) 2) 32) 23 0 (some 24)) 22 0 (some 23)) 0 3 (some 22))
set_option maxHeartbeats 8000000 in
theorem T_ci {X : Nat × (Nat → Int32)} {Q : Option Value → PH → Prop} (k : Q none zA) : WP X mX10_init 3 62 0 (en 1 [.ref 0]) [] (sN h00 4) Q := by
  refine w_aload_n dX10_init_0 rfl rfl ?_
  refine w_obj dX10_init_1 bX10_3 ob_i ob_c (by decide) (by decide) (by decide) ?_
  refine w_aload_n dX10_init_4 rfl rfl ?_
  refine n_new (a := 1) dX10_init_5 cl1 cX10_9 n1.1 n1.2 rfl rfl (by decide) ?_
  refine w_dup dX10_init_8 rfl ?_
  refine w_sipush dX10_init_9 (v := 4000) (by decide) ?_
  refine w_x1 (d2 := 1) (L2 := 20) dX10_init_12 vX10_11 rfl (by decide) (Nat.le_of_ble_eq_true rfl) (by decide) (by decide) ?_
  refine w_aload_n dX1_init_0 rfl rfl ?_
  refine w_obj dX1_init_1 bX1_3 ob_i ob_c (by decide) (by decide) (by decide) ?_
  refine w_aload_n dX1_init_4 rfl rfl ?_
  refine w_iload_n dX1_init_5 rfl rfl ?_
  refine w_if_le (tgt := 13) dX1_init_6 (by decide) (fun c => absurd c (by decide)) (fun _ => ?_)
  refine w_iload_n dX1_init_9 rfl rfl ?_
  refine w_goto (tgt := 14) dX1_init_10 (by decide) ?_
  refine n_newB (a := 2) (N := 4000) dX1_init_14 ac_byte rfl rfl rfl (by decide) (by decide) (by decide) (by decide) ?_
  refine w_putR (v := some 2) dX1_init_16 fX1_9 (Or.inr ⟨rfl, eX1_9⟩) rfl rfl (by decide +kernel) rfl ?_
  refine w_vret dX1_init_19 ?_
  refine k_v rfl ?_
  refine w_putR (v := some 1) dX10_init_15 fX10_14 (Or.inr ⟨rfl, eX10_14⟩) rfl rfl (by decide +kernel) rfl ?_
  refine w_aload_n dX10_init_18 rfl rfl ?_
  refine n_new (a := 3) dX10_init_19 cl0 cX10_18 n0.1 n0.2 rfl rfl (by decide) ?_
  refine w_dup dX10_init_22 rfl ?_
  refine w_aload_n dX10_init_23 rfl rfl ?_
  refine w_getR (b := 1) dX10_init_24 fX10_14 rfl rfl (by decide +kernel) (by decide +kernel) ?_
  refine w_x1 (d2 := 2) (L2 := 41) dX10_init_27 vX10_20 rfl (by decide) (Nat.le_of_ble_eq_true rfl) (by decide) (by decide) ?_
  refine w_aload_n dX0_init_0 rfl rfl ?_
  refine w_obj dX0_init_1 bX0_3 ob_i ob_c (by decide) (by decide) (by decide) ?_
  refine w_aload_n dX0_init_4 rfl rfl ?_
  refine w_sipush dX0_init_5 (v := 200) (by decide) ?_
  refine n_newL (a := 4) (N := 200) dX0_init_8 ac_long rfl rfl rfl (by decide) (by decide) (by decide) (by decide) ?_
  refine w_putR (v := some 4) dX0_init_10 fX0_9 (Or.inr ⟨rfl, eX0_9⟩) rfl rfl (by decide +kernel) rfl ?_
  refine w_aload_n dX0_init_13 rfl rfl ?_
  refine w_sipush dX0_init_14 (v := 200) (by decide) ?_
  refine n_newL (a := 5) (N := 200) dX0_init_17 ac_long rfl rfl rfl (by decide) (by decide) (by decide) (by decide) ?_
  refine w_putR (v := some 5) dX0_init_19 fX0_15 (Or.inr ⟨rfl, eX0_15⟩) rfl rfl (by decide +kernel) rfl ?_
  refine w_aload_n dX0_init_22 rfl rfl ?_
  refine n_new (a := 6) dX0_init_23 cl6 cX0_18 n6.1 n6.2 rfl rfl (by decide) ?_
  refine w_dup dX0_init_26 rfl ?_
  refine w_x0 (d2 := 1) (L2 := 20) dX0_init_27 vX0_20 (by decide) (Nat.le_of_ble_eq_true rfl) (by decide) (by decide) ?_
  refine w_aload_n dX7_init_0 rfl rfl ?_
  refine w_obj dX7_init_1 bX7_3 ob_i ob_c (by decide) (by decide) (by decide) ?_
  refine w_aload_n dX7_init_4 rfl rfl ?_
  refine w_sipush dX7_init_5 (v := 4096) (by decide) ?_
  refine n_newI (a := 7) (N := 4096) dX7_init_8 ac_int rfl rfl rfl (by decide) (by decide) (by decide) (by decide) ?_
  refine w_putR (v := some 7) dX7_init_10 fX7_9 (Or.inr ⟨rfl, eX7_9⟩) rfl rfl (by decide +kernel) rfl ?_
  refine w_aload_n dX7_init_13 rfl rfl ?_
  refine w_sipush dX7_init_14 (v := 200) (by decide) ?_
  refine n_newI (a := 8) (N := 200) dX7_init_17 ac_int rfl rfl rfl (by decide) (by decide) (by decide) (by decide) ?_
  refine w_putR (v := some 8) dX7_init_19 fX7_15 (Or.inr ⟨rfl, eX7_15⟩) rfl rfl (by decide +kernel) rfl ?_
  refine w_vret dX7_init_22 ?_
  refine k_v rfl ?_
  refine w_putR (v := some 6) dX0_init_30 fX0_21 (Or.inl rfl) rfl rfl (by decide +kernel) rfl ?_
  refine w_aload_n dX0_init_33 rfl rfl ?_
  refine n_new (a := 9) dX0_init_34 cl6 cX0_18 n6.1 n6.2 rfl rfl (by decide) ?_
  refine w_dup dX0_init_37 rfl ?_
  refine w_x0 (d2 := 1) (L2 := 20) dX0_init_38 vX0_20 (by decide) (Nat.le_of_ble_eq_true rfl) (by decide) (by decide) ?_
  refine w_aload_n dX7_init_0 rfl rfl ?_
  refine w_obj dX7_init_1 bX7_3 ob_i ob_c (by decide) (by decide) (by decide) ?_
  refine w_aload_n dX7_init_4 rfl rfl ?_
  refine w_sipush dX7_init_5 (v := 4096) (by decide) ?_
  refine n_newI (a := 10) (N := 4096) dX7_init_8 ac_int rfl rfl rfl (by decide) (by decide) (by decide) (by decide) ?_
  refine w_putR (v := some 10) dX7_init_10 fX7_9 (Or.inr ⟨rfl, eX7_9⟩) rfl rfl (by decide +kernel) rfl ?_
  refine w_aload_n dX7_init_13 rfl rfl ?_
  refine w_sipush dX7_init_14 (v := 200) (by decide) ?_
  refine n_newI (a := 11) (N := 200) dX7_init_17 ac_int rfl rfl rfl (by decide) (by decide) (by decide) (by decide) ?_
  refine w_putR (v := some 11) dX7_init_19 fX7_15 (Or.inr ⟨rfl, eX7_15⟩) rfl rfl (by decide +kernel) rfl ?_
  refine w_vret dX7_init_22 ?_
  refine k_v rfl ?_
  refine w_putR (v := some 9) dX0_init_41 fX0_25 (Or.inl rfl) rfl rfl (by decide +kernel) rfl ?_
  refine w_aload_n dX0_init_44 rfl rfl ?_
  refine w_iconst dX0_init_45 (v := (-1)) (by decide) ?_
  refine w_putI dX0_init_46 fX0_28 rfl rfl (by decide +kernel) ⟨by decide, by decide⟩ ?_
  refine w_aload_n dX0_init_49 rfl rfl ?_
  refine w_aload_n dX0_init_50 rfl rfl ?_
  refine w_putR (v := some 1) dX0_init_51 fX0_32 (Or.inr ⟨rfl, eX0_32⟩) rfl rfl (by decide +kernel) rfl ?_
  refine w_aload_n dX0_init_54 rfl rfl ?_
  refine n_new (a := 12) dX0_init_55 cl7 cX0_36 n7.1 n7.2 rfl rfl (by decide) ?_
  refine w_dup dX0_init_58 rfl ?_
  refine w_aload_n dX0_init_59 rfl rfl ?_
  refine w_x1 (d2 := 1) (L2 := 20) dX0_init_60 vX0_38 rfl (by decide) (Nat.le_of_ble_eq_true rfl) (by decide) (by decide) ?_
  refine w_aload_n dX8_init_0 rfl rfl ?_
  refine w_obj dX8_init_1 bX8_3 ob_i ob_c (by decide) (by decide) (by decide) ?_
  refine w_aload_n dX8_init_4 rfl rfl ?_
  refine w_aload_n dX8_init_5 rfl rfl ?_
  refine w_putR (v := some 1) dX8_init_6 fX8_9 (Or.inr ⟨rfl, eX8_9⟩) rfl rfl (by decide +kernel) rfl ?_
  refine w_vret dX8_init_9 ?_
  refine k_v rfl ?_
  refine w_putR (v := some 12) dX0_init_63 fX0_41 (Or.inr ⟨rfl, eX0_41⟩) rfl rfl (by decide +kernel) rfl ?_
  refine w_vret dX0_init_66 ?_
  refine k_v rfl ?_
  refine w_putR (v := some 3) dX10_init_30 fX10_23 (Or.inr ⟨rfl, eX10_23⟩) rfl rfl (by decide +kernel) rfl ?_
  refine w_aload_n dX10_init_33 rfl rfl ?_
  refine n_new (a := 13) dX10_init_34 cl3 cX10_27 n3.1 n3.2 rfl rfl (by decide) ?_
  refine w_dup dX10_init_37 rfl ?_
  refine w_x0 (d2 := 2) (L2 := 40) dX10_init_38 vX10_29 (by decide) (Nat.le_of_ble_eq_true rfl) (by decide) (by decide) ?_
  refine w_aload_n dX3_init_0 rfl rfl ?_
  refine w_obj dX3_init_1 bX3_3 ob_i ob_c (by decide) (by decide) (by decide) ?_
  refine w_aload_n dX3_init_4 rfl rfl ?_
  refine w_bipush dX3_init_5 (v := 12) (by decide) ?_
  refine n_newI (a := 14) (N := 12) dX3_init_7 ac_int rfl rfl rfl (by decide) (by decide) (by decide) (by decide) ?_
  refine w_putR (v := some 14) dX3_init_9 fX3_9 (Or.inr ⟨rfl, eX3_9⟩) rfl rfl (by decide +kernel) rfl ?_
  refine w_aload_n dX3_init_12 rfl rfl ?_
  refine w_iconst dX3_init_13 (v := 4) (by decide) ?_
  refine n_newI (a := 15) (N := 4) dX3_init_14 ac_int rfl rfl rfl (by decide) (by decide) (by decide) (by decide) ?_
  refine w_putR (v := some 15) dX3_init_16 fX3_15 (Or.inr ⟨rfl, eX3_15⟩) rfl rfl (by decide +kernel) rfl ?_
  refine w_aload_n dX3_init_19 rfl rfl ?_
  refine n_new (a := 16) dX3_init_20 cl4 cX3_18 n4.1 n4.2 rfl rfl (by decide) ?_
  refine w_dup dX3_init_23 rfl ?_
  refine w_x0 (d2 := 1) (L2 := 20) dX3_init_24 vX3_20 (by decide) (Nat.le_of_ble_eq_true rfl) (by decide) (by decide) ?_
  refine w_aload_n dX4_init_0 rfl rfl ?_
  refine w_obj dX4_init_1 bX4_3 ob_i ob_c (by decide) (by decide) (by decide) ?_
  refine w_aload_n dX4_init_4 rfl rfl ?_
  refine w_sipush dX4_init_5 (v := 256) (by decide) ?_
  refine n_newR (a := 17) (N := 256) dX4_init_8 cXrow rfl rfl rfl (by decide) (by decide) (by decide) (by decide) ?_
  refine w_putR (v := some 17) dX4_init_11 fX4_13 (Or.inr ⟨rfl, eX4_13⟩) rfl rfl (by decide +kernel) rfl ?_
  refine w_vret dX4_init_14 ?_
  refine k_v rfl ?_
  refine w_putR (v := some 16) dX3_init_27 fX3_21 (Or.inr ⟨rfl, eX3_21⟩) rfl rfl (by decide +kernel) rfl ?_
  refine w_aload_n dX3_init_30 rfl rfl ?_
  refine n_new (a := 18) dX3_init_31 cl2 cX3_25 n2.1 n2.2 rfl rfl (by decide) ?_
  refine w_dup dX3_init_34 rfl ?_
  refine w_x0 (d2 := 1) (L2 := 20) dX3_init_35 vX3_27 (by decide) (Nat.le_of_ble_eq_true rfl) (by decide) (by decide) ?_
  refine w_aload_n dX2_init_0 rfl rfl ?_
  refine w_obj dX2_init_1 bX2_3 ob_i ob_c (by decide) (by decide) (by decide) ?_
  refine w_aload_n dX2_init_4 rfl rfl ?_
  refine w_bipush dX2_init_5 (v := 100) (by decide) ?_
  refine n_newI (a := 19) (N := 100) dX2_init_7 ac_int rfl rfl rfl (by decide) (by decide) (by decide) (by decide) ?_
  refine w_putR (v := some 19) dX2_init_9 fX2_9 (Or.inr ⟨rfl, eX2_9⟩) rfl rfl (by decide +kernel) rfl ?_
  refine w_vret dX2_init_12 ?_
  refine k_v rfl ?_
  refine w_putR (v := some 18) dX3_init_38 fX3_28 (Or.inr ⟨rfl, eX3_28⟩) rfl rfl (by decide +kernel) rfl ?_
  refine w_aload_n dX3_init_41 rfl rfl ?_
  refine n_new (a := 20) dX3_init_42 cl5 cX3_32 n5.1 n5.2 rfl rfl (by decide) ?_
  refine w_dup dX3_init_45 rfl ?_
  refine w_x0 (d2 := 1) (L2 := 20) dX3_init_46 vX3_34 (by decide) (Nat.le_of_ble_eq_true rfl) (by decide) (by decide) ?_
  refine w_aload_n dX6_init_0 rfl rfl ?_
  refine w_obj dX6_init_1 bX6_3 ob_i ob_c (by decide) (by decide) (by decide) ?_
  refine w_aload_n dX6_init_4 rfl rfl ?_
  refine w_sipush dX6_init_5 (v := 4000) (by decide) ?_
  refine n_newB (a := 21) (N := 4000) dX6_init_8 ac_byte rfl rfl rfl (by decide) (by decide) (by decide) (by decide) ?_
  refine w_putR (v := some 21) dX6_init_10 fX6_9 (Or.inr ⟨rfl, eX6_9⟩) rfl rfl (by decide +kernel) rfl ?_
  refine w_vret dX6_init_13 ?_
  refine k_v rfl ?_
  refine w_putR (v := some 20) dX3_init_49 fX3_35 (Or.inr ⟨rfl, eX3_35⟩) rfl rfl (by decide +kernel) rfl ?_
  refine w_aload_n dX3_init_52 rfl rfl ?_
  refine w_iconst dX3_init_53 (v := 0) (by decide) ?_
  refine w_putI dX3_init_54 fX3_39 rfl rfl (by decide +kernel) ⟨by decide, by decide⟩ ?_
  refine w_aload_n dX3_init_57 rfl rfl ?_
  refine w_iconst dX3_init_58 (v := (-1)) (by decide) ?_
  refine w_putI dX3_init_59 fX3_43 rfl rfl (by decide +kernel) ⟨by decide, by decide⟩ ?_
  refine w_aload_n dX3_init_62 rfl rfl ?_
  refine w_v0 (d2 := 0) (L2 := 0) dX3_init_63 vX3_46 rfl (by decide +kernel) (by decide) (Nat.le_of_ble_eq_true rfl) (by decide) (by decide) ?_
  refine w_iconst dX3_clearRegisters_0 (v := 0) (by decide) ?_
  refine w_istore_n dX3_clearRegisters_1 rfl (by decide) ?_
  refine w_iload_n dX3_clearRegisters_2 rfl rfl ?_
  refine w_bipush dX3_clearRegisters_3 (v := 8) (by decide) ?_
  refine w_icmp_ge (tgt := 21) dX3_clearRegisters_5 (by decide) (fun c => absurd c (by decide)) (fun _ => ?_)
  refine w_aload_n dX3_clearRegisters_8 rfl rfl ?_
  refine w_getR (b := 14) dX3_clearRegisters_9 fX3_9 rfl rfl (by decide +kernel) (by decide +kernel) ?_
  refine w_iload_n dX3_clearRegisters_12 rfl rfl ?_
  refine w_iconst dX3_clearRegisters_13 (v := 0) (by decide) ?_
  refine e_ias (k9 := 0) dX3_clearRegisters_14 rfl (by decide +kernel) (by decide) (vin (by decide)) ?_
  refine w_iinc (v := 1) dX3_clearRegisters_15 rfl (by decide) (by decide) ?_
  refine w_goto (tgt := 2) dX3_clearRegisters_18 (by decide) ?_
  refine w_iload_n dX3_clearRegisters_2 rfl rfl ?_
  refine w_bipush dX3_clearRegisters_3 (v := 8) (by decide) ?_
  refine w_icmp_ge (tgt := 21) dX3_clearRegisters_5 (by decide) (fun c => absurd c (by decide)) (fun _ => ?_)
  refine w_aload_n dX3_clearRegisters_8 rfl rfl ?_
  refine w_getR (b := 14) dX3_clearRegisters_9 fX3_9 rfl rfl (by decide +kernel) (by decide +kernel) ?_
  refine w_iload_n dX3_clearRegisters_12 rfl rfl ?_
  refine w_iconst dX3_clearRegisters_13 (v := 0) (by decide) ?_
  refine e_ias (k9 := 1) dX3_clearRegisters_14 rfl (by decide +kernel) (by decide) (vin (by decide)) ?_
  refine w_iinc (v := 2) dX3_clearRegisters_15 rfl (by decide) (by decide) ?_
  refine w_goto (tgt := 2) dX3_clearRegisters_18 (by decide) ?_
  refine w_iload_n dX3_clearRegisters_2 rfl rfl ?_
  refine w_bipush dX3_clearRegisters_3 (v := 8) (by decide) ?_
  refine w_icmp_ge (tgt := 21) dX3_clearRegisters_5 (by decide) (fun c => absurd c (by decide)) (fun _ => ?_)
  refine w_aload_n dX3_clearRegisters_8 rfl rfl ?_
  refine w_getR (b := 14) dX3_clearRegisters_9 fX3_9 rfl rfl (by decide +kernel) (by decide +kernel) ?_
  refine w_iload_n dX3_clearRegisters_12 rfl rfl ?_
  refine w_iconst dX3_clearRegisters_13 (v := 0) (by decide) ?_
  refine e_ias (k9 := 2) dX3_clearRegisters_14 rfl (by decide +kernel) (by decide) (vin (by decide)) ?_
  refine w_iinc (v := 3) dX3_clearRegisters_15 rfl (by decide) (by decide) ?_
  refine w_goto (tgt := 2) dX3_clearRegisters_18 (by decide) ?_
  refine w_iload_n dX3_clearRegisters_2 rfl rfl ?_
  refine w_bipush dX3_clearRegisters_3 (v := 8) (by decide) ?_
  refine w_icmp_ge (tgt := 21) dX3_clearRegisters_5 (by decide) (fun c => absurd c (by decide)) (fun _ => ?_)
  refine w_aload_n dX3_clearRegisters_8 rfl rfl ?_
  refine w_getR (b := 14) dX3_clearRegisters_9 fX3_9 rfl rfl (by decide +kernel) (by decide +kernel) ?_
  refine w_iload_n dX3_clearRegisters_12 rfl rfl ?_
  refine w_iconst dX3_clearRegisters_13 (v := 0) (by decide) ?_
  refine e_ias (k9 := 3) dX3_clearRegisters_14 rfl (by decide +kernel) (by decide) (vin (by decide)) ?_
  refine w_iinc (v := 4) dX3_clearRegisters_15 rfl (by decide) (by decide) ?_
  refine w_goto (tgt := 2) dX3_clearRegisters_18 (by decide) ?_
  refine w_iload_n dX3_clearRegisters_2 rfl rfl ?_
  refine w_bipush dX3_clearRegisters_3 (v := 8) (by decide) ?_
  refine w_icmp_ge (tgt := 21) dX3_clearRegisters_5 (by decide) (fun c => absurd c (by decide)) (fun _ => ?_)
  refine w_aload_n dX3_clearRegisters_8 rfl rfl ?_
  refine w_getR (b := 14) dX3_clearRegisters_9 fX3_9 rfl rfl (by decide +kernel) (by decide +kernel) ?_
  refine w_iload_n dX3_clearRegisters_12 rfl rfl ?_
  refine w_iconst dX3_clearRegisters_13 (v := 0) (by decide) ?_
  refine e_ias (k9 := 4) dX3_clearRegisters_14 rfl (by decide +kernel) (by decide) (vin (by decide)) ?_
  refine w_iinc (v := 5) dX3_clearRegisters_15 rfl (by decide) (by decide) ?_
  refine w_goto (tgt := 2) dX3_clearRegisters_18 (by decide) ?_
  refine w_iload_n dX3_clearRegisters_2 rfl rfl ?_
  refine w_bipush dX3_clearRegisters_3 (v := 8) (by decide) ?_
  refine w_icmp_ge (tgt := 21) dX3_clearRegisters_5 (by decide) (fun c => absurd c (by decide)) (fun _ => ?_)
  refine w_aload_n dX3_clearRegisters_8 rfl rfl ?_
  refine w_getR (b := 14) dX3_clearRegisters_9 fX3_9 rfl rfl (by decide +kernel) (by decide +kernel) ?_
  refine w_iload_n dX3_clearRegisters_12 rfl rfl ?_
  refine w_iconst dX3_clearRegisters_13 (v := 0) (by decide) ?_
  refine e_ias (k9 := 5) dX3_clearRegisters_14 rfl (by decide +kernel) (by decide) (vin (by decide)) ?_
  refine w_iinc (v := 6) dX3_clearRegisters_15 rfl (by decide) (by decide) ?_
  refine w_goto (tgt := 2) dX3_clearRegisters_18 (by decide) ?_
  refine w_iload_n dX3_clearRegisters_2 rfl rfl ?_
  refine w_bipush dX3_clearRegisters_3 (v := 8) (by decide) ?_
  refine w_icmp_ge (tgt := 21) dX3_clearRegisters_5 (by decide) (fun c => absurd c (by decide)) (fun _ => ?_)
  refine w_aload_n dX3_clearRegisters_8 rfl rfl ?_
  refine w_getR (b := 14) dX3_clearRegisters_9 fX3_9 rfl rfl (by decide +kernel) (by decide +kernel) ?_
  refine w_iload_n dX3_clearRegisters_12 rfl rfl ?_
  refine w_iconst dX3_clearRegisters_13 (v := 0) (by decide) ?_
  refine e_ias (k9 := 6) dX3_clearRegisters_14 rfl (by decide +kernel) (by decide) (vin (by decide)) ?_
  refine w_iinc (v := 7) dX3_clearRegisters_15 rfl (by decide) (by decide) ?_
  refine w_goto (tgt := 2) dX3_clearRegisters_18 (by decide) ?_
  refine w_iload_n dX3_clearRegisters_2 rfl rfl ?_
  refine w_bipush dX3_clearRegisters_3 (v := 8) (by decide) ?_
  refine w_icmp_ge (tgt := 21) dX3_clearRegisters_5 (by decide) (fun c => absurd c (by decide)) (fun _ => ?_)
  refine w_aload_n dX3_clearRegisters_8 rfl rfl ?_
  refine w_getR (b := 14) dX3_clearRegisters_9 fX3_9 rfl rfl (by decide +kernel) (by decide +kernel) ?_
  refine w_iload_n dX3_clearRegisters_12 rfl rfl ?_
  refine w_iconst dX3_clearRegisters_13 (v := 0) (by decide) ?_
  refine e_ias (k9 := 7) dX3_clearRegisters_14 rfl (by decide +kernel) (by decide) (vin (by decide)) ?_
  refine w_iinc (v := 8) dX3_clearRegisters_15 rfl (by decide) (by decide) ?_
  refine w_goto (tgt := 2) dX3_clearRegisters_18 (by decide) ?_
  refine w_iload_n dX3_clearRegisters_2 rfl rfl ?_
  refine w_bipush dX3_clearRegisters_3 (v := 8) (by decide) ?_
  refine w_icmp_ge (tgt := 21) dX3_clearRegisters_5 (by decide) (fun _ => ?_) (fun c => absurd (by decide) c)
  refine w_aload_n dX3_clearRegisters_21 rfl rfl ?_
  refine w_getR (b := 14) dX3_clearRegisters_22 fX3_9 rfl rfl (by decide +kernel) (by decide +kernel) ?_
  refine w_bipush dX3_clearRegisters_25 (v := 8) (by decide) ?_
  refine w_sipush dX3_clearRegisters_27 (v := 12288) (by decide) ?_
  refine e_ias (k9 := 8) dX3_clearRegisters_30 rfl (by decide +kernel) (by decide) (vin (by decide)) ?_
  refine w_aload_n dX3_clearRegisters_31 rfl rfl ?_
  refine w_getR (b := 14) dX3_clearRegisters_32 fX3_9 rfl rfl (by decide +kernel) (by decide +kernel) ?_
  refine w_bipush dX3_clearRegisters_35 (v := 9) (by decide) ?_
  refine w_ldc dX3_clearRegisters_37 kX3_49 ?_
  refine e_ias (k9 := 9) dX3_clearRegisters_39 rfl (by decide +kernel) (by decide) (vin (by decide)) ?_
  refine w_aload_n dX3_clearRegisters_40 rfl rfl ?_
  refine w_getR (b := 14) dX3_clearRegisters_41 fX3_9 rfl rfl (by decide +kernel) (by decide +kernel) ?_
  refine w_bipush dX3_clearRegisters_44 (v := 10) (by decide) ?_
  refine w_sipush dX3_clearRegisters_46 (v := 12288) (by decide) ?_
  refine e_ias (k9 := 10) dX3_clearRegisters_49 rfl (by decide +kernel) (by decide) (vin (by decide)) ?_
  refine w_aload_n dX3_clearRegisters_50 rfl rfl ?_
  refine w_getR (b := 14) dX3_clearRegisters_51 fX3_9 rfl rfl (by decide +kernel) (by decide +kernel) ?_
  refine w_bipush dX3_clearRegisters_54 (v := 11) (by decide) ?_
  refine w_ldc dX3_clearRegisters_56 kX3_50 ?_
  refine e_ias (k9 := 11) dX3_clearRegisters_58 rfl (by decide +kernel) (by decide) (vin (by decide)) ?_
  refine w_vret dX3_clearRegisters_59 ?_
  refine k_v rfl ?_
  refine w_vret dX3_init_66 ?_
  refine k_v rfl ?_
  refine w_putR (v := some 13) dX10_init_41 fX10_30 (Or.inr ⟨rfl, eX10_30⟩) rfl rfl (by decide +kernel) rfl ?_
  refine w_aload_n dX10_init_44 rfl rfl ?_
  refine n_new (a := 22) dX10_init_45 cl8 cX10_34 n8.1 n8.2 rfl rfl (by decide) ?_
  refine w_dup dX10_init_48 rfl ?_
  refine w_x0 (d2 := 2) (L2 := 41) dX10_init_49 vX10_36 (by decide) (Nat.le_of_ble_eq_true rfl) (by decide) (by decide) ?_
  refine w_aload_n dX9_init_0 rfl rfl ?_
  refine w_obj dX9_init_1 bX9_3 ob_i ob_c (by decide) (by decide) (by decide) ?_
  refine w_aload_n dX9_init_4 rfl rfl ?_
  refine n_new (a := 23) dX9_init_5 cl1 cX9_9 n1.1 n1.2 rfl rfl (by decide) ?_
  refine w_dup dX9_init_8 rfl ?_
  refine w_bipush dX9_init_9 (v := 32) (by decide) ?_
  refine w_x1 (d2 := 1) (L2 := 20) dX9_init_11 vX9_11 rfl (by decide) (Nat.le_of_ble_eq_true rfl) (by decide) (by decide) ?_
  refine w_aload_n dX1_init_0 rfl rfl ?_
  refine w_obj dX1_init_1 bX1_3 ob_i ob_c (by decide) (by decide) (by decide) ?_
  refine w_aload_n dX1_init_4 rfl rfl ?_
  refine w_iload_n dX1_init_5 rfl rfl ?_
  refine w_if_le (tgt := 13) dX1_init_6 (by decide) (fun c => absurd c (by decide)) (fun _ => ?_)
  refine w_iload_n dX1_init_9 rfl rfl ?_
  refine w_goto (tgt := 14) dX1_init_10 (by decide) ?_
  refine n_newB (a := 24) (N := 32) dX1_init_14 ac_byte rfl rfl rfl (by decide) (by decide) (by decide) (by decide) ?_
  refine w_putR (v := some 24) dX1_init_16 fX1_9 (Or.inr ⟨rfl, eX1_9⟩) rfl rfl (by decide +kernel) rfl ?_
  refine w_vret dX1_init_19 ?_
  refine k_v rfl ?_
  refine w_putR (v := some 23) dX9_init_14 fX9_14 (Or.inr ⟨rfl, eX9_14⟩) rfl rfl (by decide +kernel) rfl ?_
  refine w_vret dX9_init_17 ?_
  refine k_v rfl ?_
  refine w_putR (v := some 22) dX10_init_52 fX10_37 (Or.inr ⟨rfl, eX10_37⟩) rfl rfl (by decide +kernel) rfl ?_
  refine w_vret dX10_init_55 ?_
  exact k
def zB : PH := (sI (sI (sI (sI (sI (sI (sI (sI (sI (sI (sI (sI (sI (sI (sI (sI (sR (sN (sR (sN (sR (sN (sR (sN (sR (sN (sR (sN (sI (sR (sN (sR (sN (sR (sN (sR (sN (sR (sN (sR (sN (sR (sN (sN zA 52) 65536) 25 1 (some 26)) 8) 25 2 (some 27)) 100) 25 10 (some 28)) 4000) 25 12 (some 29)) 4020) 25 20 (some 30)) 4096) 25 22 (some 31)) 200) 25 26 (some 32)) 25 29 (-1)) 4096) 25 30 (some 33)) 200) 25 33 (some 34)) 200) 25 34 (some 35)) 200) 25 35 (some 36)) 40) 25 37 (some 37)) 4000) 25 45 (some 38)) 27 0 (0)) 27 1 (0)) 27 2 (0)) 27 3 (0)) 27 4 (0)) 27 5 (0)) 27 6 (0)) 27 7 (0)) 25 4 (32770)) 25 5 (12288)) 25 6 (65024)) 25 7 (0)) 25 8 (0)) 25 9 (0)) 25 11 (0)) 25 3 (12288))
set_option maxHeartbeats 8000000 in
theorem T_mi {X : Nat × (Nat → Int32)} {Q : Option Value → PH → Prop} (k : Q none zB) : WP X mX11_init 1 21 0 (en 1 [.ref 25]) [] (sN zA 52) Q := by
  refine w_aload_n dX11_init_0 rfl rfl ?_
  refine w_obj dX11_init_1 bX11_1 ob_i ob_c (by decide) (by decide) (by decide) ?_
  refine w_aload_n dX11_init_4 rfl rfl ?_
  refine w_ldc dX11_init_5 kX11_7 ?_
  refine n_newI (a := 26) (N := 65536) dX11_init_7 ac_int rfl rfl rfl (by decide) (by decide) (by decide) (by decide) ?_
  refine w_putR (v := some 26) dX11_init_9 fX11_8 (Or.inr ⟨rfl, eX11_8⟩) rfl rfl (by decide +kernel) rfl ?_
  refine w_aload_n dX11_init_12 rfl rfl ?_
  refine w_bipush dX11_init_13 (v := 8) (by decide) ?_
  refine n_newI (a := 27) (N := 8) dX11_init_15 ac_int rfl rfl rfl (by decide) (by decide) (by decide) (by decide) ?_
  refine w_putR (v := some 27) dX11_init_17 fX11_14 (Or.inr ⟨rfl, eX11_14⟩) rfl rfl (by decide +kernel) rfl ?_
  refine w_aload_n dX11_init_20 rfl rfl ?_
  refine w_bipush dX11_init_21 (v := 100) (by decide) ?_
  refine n_newI (a := 28) (N := 100) dX11_init_23 ac_int rfl rfl rfl (by decide) (by decide) (by decide) (by decide) ?_
  refine w_putR (v := some 28) dX11_init_25 fX11_17 (Or.inr ⟨rfl, eX11_17⟩) rfl rfl (by decide +kernel) rfl ?_
  refine w_aload_n dX11_init_28 rfl rfl ?_
  refine w_sipush dX11_init_29 (v := 4000) (by decide) ?_
  refine n_newI (a := 29) (N := 4000) dX11_init_32 ac_int rfl rfl rfl (by decide) (by decide) (by decide) (by decide) ?_
  refine w_putR (v := some 29) dX11_init_34 fX11_20 (Or.inr ⟨rfl, eX11_20⟩) rfl rfl (by decide +kernel) rfl ?_
  refine w_aload_n dX11_init_37 rfl rfl ?_
  refine w_sipush dX11_init_38 (v := 4020) (by decide) ?_
  refine n_newI (a := 30) (N := 4020) dX11_init_41 ac_int rfl rfl rfl (by decide) (by decide) (by decide) (by decide) ?_
  refine w_putR (v := some 30) dX11_init_43 fX11_23 (Or.inr ⟨rfl, eX11_23⟩) rfl rfl (by decide +kernel) rfl ?_
  refine w_aload_n dX11_init_46 rfl rfl ?_
  refine w_sipush dX11_init_47 (v := 4096) (by decide) ?_
  refine n_newI (a := 31) (N := 4096) dX11_init_50 ac_int rfl rfl rfl (by decide) (by decide) (by decide) (by decide) ?_
  refine w_putR (v := some 31) dX11_init_52 fX11_26 (Or.inr ⟨rfl, eX11_26⟩) rfl rfl (by decide +kernel) rfl ?_
  refine w_aload_n dX11_init_55 rfl rfl ?_
  refine w_sipush dX11_init_56 (v := 200) (by decide) ?_
  refine n_newI (a := 32) (N := 200) dX11_init_59 ac_int rfl rfl rfl (by decide) (by decide) (by decide) (by decide) ?_
  refine w_putR (v := some 32) dX11_init_61 fX11_29 (Or.inr ⟨rfl, eX11_29⟩) rfl rfl (by decide +kernel) rfl ?_
  refine w_aload_n dX11_init_64 rfl rfl ?_
  refine w_iconst dX11_init_65 (v := (-1)) (by decide) ?_
  refine w_putI dX11_init_66 fX11_32 rfl rfl (by decide +kernel) ⟨by decide, by decide⟩ ?_
  refine w_aload_n dX11_init_69 rfl rfl ?_
  refine w_sipush dX11_init_70 (v := 4096) (by decide) ?_
  refine n_newI (a := 33) (N := 4096) dX11_init_73 ac_int rfl rfl rfl (by decide) (by decide) (by decide) (by decide) ?_
  refine w_putR (v := some 33) dX11_init_75 fX11_36 (Or.inr ⟨rfl, eX11_36⟩) rfl rfl (by decide +kernel) rfl ?_
  refine w_aload_n dX11_init_78 rfl rfl ?_
  refine w_sipush dX11_init_79 (v := 200) (by decide) ?_
  refine n_newI (a := 34) (N := 200) dX11_init_82 ac_int rfl rfl rfl (by decide) (by decide) (by decide) (by decide) ?_
  refine w_putR (v := some 34) dX11_init_84 fX11_39 (Or.inr ⟨rfl, eX11_39⟩) rfl rfl (by decide +kernel) rfl ?_
  refine w_aload_n dX11_init_87 rfl rfl ?_
  refine w_sipush dX11_init_88 (v := 200) (by decide) ?_
  refine n_newI (a := 35) (N := 200) dX11_init_91 ac_int rfl rfl rfl (by decide) (by decide) (by decide) (by decide) ?_
  refine w_putR (v := some 35) dX11_init_93 fX11_42 (Or.inr ⟨rfl, eX11_42⟩) rfl rfl (by decide +kernel) rfl ?_
  refine w_aload_n dX11_init_96 rfl rfl ?_
  refine w_sipush dX11_init_97 (v := 200) (by decide) ?_
  refine n_newI (a := 36) (N := 200) dX11_init_100 ac_int rfl rfl rfl (by decide) (by decide) (by decide) (by decide) ?_
  refine w_putR (v := some 36) dX11_init_102 fX11_45 (Or.inr ⟨rfl, eX11_45⟩) rfl rfl (by decide +kernel) rfl ?_
  refine w_aload_n dX11_init_105 rfl rfl ?_
  refine w_bipush dX11_init_106 (v := 40) (by decide) ?_
  refine n_newI (a := 37) (N := 40) dX11_init_108 ac_int rfl rfl rfl (by decide) (by decide) (by decide) (by decide) ?_
  refine w_putR (v := some 37) dX11_init_110 fX11_48 (Or.inr ⟨rfl, eX11_48⟩) rfl rfl (by decide +kernel) rfl ?_
  refine w_aload_n dX11_init_113 rfl rfl ?_
  refine w_sipush dX11_init_114 (v := 4000) (by decide) ?_
  refine n_newI (a := 38) (N := 4000) dX11_init_117 ac_int rfl rfl rfl (by decide) (by decide) (by decide) (by decide) ?_
  refine w_putR (v := some 38) dX11_init_119 fX11_51 (Or.inr ⟨rfl, eX11_51⟩) rfl rfl (by decide +kernel) rfl ?_
  refine w_aload_n dX11_init_122 rfl rfl ?_
  refine w_v0 (d2 := 0) (L2 := 0) dX11_init_123 vX11_54 rfl (by decide +kernel) (by decide) (Nat.le_of_ble_eq_true rfl) (by decide) (by decide) ?_
  refine w_iconst dX11_first_0 (v := 0) (by decide) ?_
  refine w_istore_n dX11_first_1 rfl (by decide) ?_
  refine w_iload_n dX11_first_2 rfl rfl ?_
  refine w_bipush dX11_first_3 (v := 8) (by decide) ?_
  refine w_icmp_ge (tgt := 21) dX11_first_5 (by decide) (fun c => absurd c (by decide)) (fun _ => ?_)
  refine w_aload_n dX11_first_8 rfl rfl ?_
  refine w_getR (b := 27) dX11_first_9 fX11_14 rfl rfl (by decide +kernel) (by decide +kernel) ?_
  refine w_iload_n dX11_first_12 rfl rfl ?_
  refine w_iconst dX11_first_13 (v := 0) (by decide) ?_
  refine e_ias (k9 := 0) dX11_first_14 rfl (by decide +kernel) (by decide) (vin (by decide)) ?_
  refine w_iinc (v := 1) dX11_first_15 rfl (by decide) (by decide) ?_
  refine w_goto (tgt := 2) dX11_first_18 (by decide) ?_
  refine w_iload_n dX11_first_2 rfl rfl ?_
  refine w_bipush dX11_first_3 (v := 8) (by decide) ?_
  refine w_icmp_ge (tgt := 21) dX11_first_5 (by decide) (fun c => absurd c (by decide)) (fun _ => ?_)
  refine w_aload_n dX11_first_8 rfl rfl ?_
  refine w_getR (b := 27) dX11_first_9 fX11_14 rfl rfl (by decide +kernel) (by decide +kernel) ?_
  refine w_iload_n dX11_first_12 rfl rfl ?_
  refine w_iconst dX11_first_13 (v := 0) (by decide) ?_
  refine e_ias (k9 := 1) dX11_first_14 rfl (by decide +kernel) (by decide) (vin (by decide)) ?_
  refine w_iinc (v := 2) dX11_first_15 rfl (by decide) (by decide) ?_
  refine w_goto (tgt := 2) dX11_first_18 (by decide) ?_
  refine w_iload_n dX11_first_2 rfl rfl ?_
  refine w_bipush dX11_first_3 (v := 8) (by decide) ?_
  refine w_icmp_ge (tgt := 21) dX11_first_5 (by decide) (fun c => absurd c (by decide)) (fun _ => ?_)
  refine w_aload_n dX11_first_8 rfl rfl ?_
  refine w_getR (b := 27) dX11_first_9 fX11_14 rfl rfl (by decide +kernel) (by decide +kernel) ?_
  refine w_iload_n dX11_first_12 rfl rfl ?_
  refine w_iconst dX11_first_13 (v := 0) (by decide) ?_
  refine e_ias (k9 := 2) dX11_first_14 rfl (by decide +kernel) (by decide) (vin (by decide)) ?_
  refine w_iinc (v := 3) dX11_first_15 rfl (by decide) (by decide) ?_
  refine w_goto (tgt := 2) dX11_first_18 (by decide) ?_
  refine w_iload_n dX11_first_2 rfl rfl ?_
  refine w_bipush dX11_first_3 (v := 8) (by decide) ?_
  refine w_icmp_ge (tgt := 21) dX11_first_5 (by decide) (fun c => absurd c (by decide)) (fun _ => ?_)
  refine w_aload_n dX11_first_8 rfl rfl ?_
  refine w_getR (b := 27) dX11_first_9 fX11_14 rfl rfl (by decide +kernel) (by decide +kernel) ?_
  refine w_iload_n dX11_first_12 rfl rfl ?_
  refine w_iconst dX11_first_13 (v := 0) (by decide) ?_
  refine e_ias (k9 := 3) dX11_first_14 rfl (by decide +kernel) (by decide) (vin (by decide)) ?_
  refine w_iinc (v := 4) dX11_first_15 rfl (by decide) (by decide) ?_
  refine w_goto (tgt := 2) dX11_first_18 (by decide) ?_
  refine w_iload_n dX11_first_2 rfl rfl ?_
  refine w_bipush dX11_first_3 (v := 8) (by decide) ?_
  refine w_icmp_ge (tgt := 21) dX11_first_5 (by decide) (fun c => absurd c (by decide)) (fun _ => ?_)
  refine w_aload_n dX11_first_8 rfl rfl ?_
  refine w_getR (b := 27) dX11_first_9 fX11_14 rfl rfl (by decide +kernel) (by decide +kernel) ?_
  refine w_iload_n dX11_first_12 rfl rfl ?_
  refine w_iconst dX11_first_13 (v := 0) (by decide) ?_
  refine e_ias (k9 := 4) dX11_first_14 rfl (by decide +kernel) (by decide) (vin (by decide)) ?_
  refine w_iinc (v := 5) dX11_first_15 rfl (by decide) (by decide) ?_
  refine w_goto (tgt := 2) dX11_first_18 (by decide) ?_
  refine w_iload_n dX11_first_2 rfl rfl ?_
  refine w_bipush dX11_first_3 (v := 8) (by decide) ?_
  refine w_icmp_ge (tgt := 21) dX11_first_5 (by decide) (fun c => absurd c (by decide)) (fun _ => ?_)
  refine w_aload_n dX11_first_8 rfl rfl ?_
  refine w_getR (b := 27) dX11_first_9 fX11_14 rfl rfl (by decide +kernel) (by decide +kernel) ?_
  refine w_iload_n dX11_first_12 rfl rfl ?_
  refine w_iconst dX11_first_13 (v := 0) (by decide) ?_
  refine e_ias (k9 := 5) dX11_first_14 rfl (by decide +kernel) (by decide) (vin (by decide)) ?_
  refine w_iinc (v := 6) dX11_first_15 rfl (by decide) (by decide) ?_
  refine w_goto (tgt := 2) dX11_first_18 (by decide) ?_
  refine w_iload_n dX11_first_2 rfl rfl ?_
  refine w_bipush dX11_first_3 (v := 8) (by decide) ?_
  refine w_icmp_ge (tgt := 21) dX11_first_5 (by decide) (fun c => absurd c (by decide)) (fun _ => ?_)
  refine w_aload_n dX11_first_8 rfl rfl ?_
  refine w_getR (b := 27) dX11_first_9 fX11_14 rfl rfl (by decide +kernel) (by decide +kernel) ?_
  refine w_iload_n dX11_first_12 rfl rfl ?_
  refine w_iconst dX11_first_13 (v := 0) (by decide) ?_
  refine e_ias (k9 := 6) dX11_first_14 rfl (by decide +kernel) (by decide) (vin (by decide)) ?_
  refine w_iinc (v := 7) dX11_first_15 rfl (by decide) (by decide) ?_
  refine w_goto (tgt := 2) dX11_first_18 (by decide) ?_
  refine w_iload_n dX11_first_2 rfl rfl ?_
  refine w_bipush dX11_first_3 (v := 8) (by decide) ?_
  refine w_icmp_ge (tgt := 21) dX11_first_5 (by decide) (fun c => absurd c (by decide)) (fun _ => ?_)
  refine w_aload_n dX11_first_8 rfl rfl ?_
  refine w_getR (b := 27) dX11_first_9 fX11_14 rfl rfl (by decide +kernel) (by decide +kernel) ?_
  refine w_iload_n dX11_first_12 rfl rfl ?_
  refine w_iconst dX11_first_13 (v := 0) (by decide) ?_
  refine e_ias (k9 := 7) dX11_first_14 rfl (by decide +kernel) (by decide) (vin (by decide)) ?_
  refine w_iinc (v := 8) dX11_first_15 rfl (by decide) (by decide) ?_
  refine w_goto (tgt := 2) dX11_first_18 (by decide) ?_
  refine w_iload_n dX11_first_2 rfl rfl ?_
  refine w_bipush dX11_first_3 (v := 8) (by decide) ?_
  refine w_icmp_ge (tgt := 21) dX11_first_5 (by decide) (fun _ => ?_) (fun c => absurd (by decide) c)
  refine w_aload_n dX11_first_21 rfl rfl ?_
  refine w_ldc dX11_first_22 kX11_63 ?_
  refine w_putI dX11_first_24 fX11_64 rfl rfl (by decide +kernel) ⟨by decide, by decide⟩ ?_
  refine w_aload_n dX11_first_27 rfl rfl ?_
  refine w_sipush dX11_first_28 (v := 12288) (by decide) ?_
  refine w_putI dX11_first_31 fX11_67 rfl rfl (by decide +kernel) ⟨by decide, by decide⟩ ?_
  refine w_aload_n dX11_first_34 rfl rfl ?_
  refine w_ldc dX11_first_35 kX11_70 ?_
  refine w_putI dX11_first_37 fX11_71 rfl rfl (by decide +kernel) ⟨by decide, by decide⟩ ?_
  refine w_aload_n dX11_first_40 rfl rfl ?_
  refine w_iconst dX11_first_41 (v := 0) (by decide) ?_
  refine w_putI dX11_first_42 fX11_74 rfl rfl (by decide +kernel) ⟨by decide, by decide⟩ ?_
  refine w_aload_n dX11_first_45 rfl rfl ?_
  refine w_iconst dX11_first_46 (v := 0) (by decide) ?_
  refine w_putI dX11_first_47 fX11_77 rfl rfl (by decide +kernel) ⟨by decide, by decide⟩ ?_
  refine w_aload_n dX11_first_50 rfl rfl ?_
  refine w_iconst dX11_first_51 (v := 0) (by decide) ?_
  refine w_putI dX11_first_52 fX11_81 rfl rfl (by decide +kernel) ⟨by decide, by decide⟩ ?_
  refine w_aload_n dX11_first_55 rfl rfl ?_
  refine w_iconst dX11_first_56 (v := 0) (by decide) ?_
  refine w_putI dX11_first_57 fX11_84 rfl rfl (by decide +kernel) ⟨by decide, by decide⟩ ?_
  refine w_vret dX11_first_60 ?_
  refine k_v rfl ?_
  refine w_aload_n dX11_init_126 rfl rfl ?_
  refine w_sipush dX11_init_127 (v := 12288) (by decide) ?_
  refine w_putI dX11_init_130 fX11_57 rfl rfl (by decide +kernel) ⟨by decide, by decide⟩ ?_
  refine w_vret dX11_init_133 ?_
  exact k
/-- all is made -/
def zC : PH := sN zB 1
set_option maxHeartbeats 8000000 in
theorem T_begin {X : Nat × (Nat → Int32)} {Q : Option Value → PH → Prop} (k : WP X mL_law 16 614 23 [some (.ref 1004000), some (.ref 0), some (.ref 25), some (.ref 39), some (.int 0), none, none] [] zC Q) : WP X mL_law 16 614 0 (en 7 [.ref 1004000]) [] h00 Q := by
  refine n_new (a := 0) dL_law_0 cl9 cL_8 n9.1 n9.2 rfl rfl (by decide) ?_
  refine w_dup dL_law_3 rfl ?_
  refine w_x0 (d2 := 3) (L2 := 62) dL_law_4 vL_32 (by decide) (Nat.le_of_ble_eq_true rfl) (by decide) (by decide) ?_
  refine T_ci ?_
  refine k_v rfl ?_
  refine w_astore_n dL_law_7 rfl (by decide) ?_
  refine n_new (a := 25) dL_law_8 cl10 cL_33 n10.1 n10.2 (by decide +kernel) rfl (by decide) ?_
  refine w_dup dL_law_11 rfl ?_
  refine w_x0 (d2 := 1) (L2 := 21) dL_law_12 vL_35 (by decide) (Nat.le_of_ble_eq_true rfl) (by decide) (by decide) ?_
  refine T_mi ?_
  refine k_v rfl ?_
  refine w_astore_n dL_law_15 rfl (by decide) ?_
  refine w_iconst dL_law_16 (v := 1) (by decide) ?_
  refine n_newL (a := 39) (N := 1) dL_law_17 ac_long (by decide +kernel) rfl rfl (by decide) (by decide) (by decide) (by decide) ?_
  refine w_astore_n dL_law_19 rfl (by decide) ?_
  refine w_iconst dL_law_20 (v := 0) (by decide) ?_
  refine w_istore dL_law_21 (by decide) ?_
  exact k
