/-! TOKENS of the class -/
set_option maxRecDepth 20000 in
set_option maxHeartbeats 4000000 in
/-- signOf(b) -/
theorem T_sgI {X : Nat × (Nat → Int32)} {h : PH} {Q : Option Value → PH → Prop} {b : Int32} (k : Q (some (.int (sgI b))) h) : WP X mX10_signOf 0 0 0 (en 1 [.int b]) [] h Q := by
  refine w_iload_n dX10_signOf_0 rfl rfl ?_
  refine w_bipush dX10_signOf_1 (v := 65) (by decide) ?_
  refine w_icmp_lt (tgt := 19) dX10_signOf_3 (by decide) (fun c_3 => ?_) (fun c_3 => ?_)
  · refine w_iload_n dX10_signOf_19 rfl rfl ?_
    refine w_bipush dX10_signOf_20 (v := 97) (by decide) ?_
    refine w_icmp_lt (tgt := 38) dX10_signOf_22 (by decide) (fun c_22 => ?_) (fun c_22 => ?_)
    · refine w_iload_n dX10_signOf_38 rfl rfl ?_
      refine w_bipush dX10_signOf_39 (v := 48) (by decide) ?_
      refine w_icmp_lt (tgt := 58) dX10_signOf_41 (by decide) (fun c_41 => ?_) (fun c_41 => ?_)
      · refine w_iload_n dX10_signOf_58 rfl rfl ?_
        by_cases s_35 : b = 35
        · refine w_lkE (off := 47) (tgt := 106) s_35 dX10_signOf_59 (by decide) (by decide) (by decide) ?_
          refine w_bipush dX10_signOf_106 (v := 39) (by decide) ?_
          refine w_iret dX10_signOf_108 (fun _ e => by cases e; rfl) ?_
          simp only [sgI, sg2, sg3, sg4] at k; simp only [if_pos c_3, if_pos c_22, if_pos c_41, if_pos s_35] at k; exact k
        by_cases s_45 : b = 45
        · refine w_lkE (off := 50) (tgt := 109) s_45 dX10_signOf_59 (by decide) (by decide) (by decide) ?_
          refine w_bipush dX10_signOf_109 (v := 40) (by decide) ?_
          refine w_iret dX10_signOf_111 (fun _ e => by cases e; rfl) ?_
          simp only [sgI, sg2, sg3, sg4] at k; simp only [if_pos c_3, if_pos c_22, if_pos c_41, if_neg s_35, if_pos s_45] at k; exact k
        by_cases s_46 : b = 46
        · refine w_lkE (off := 44) (tgt := 103) s_46 dX10_signOf_59 (by decide) (by decide) (by decide) ?_
          refine w_bipush dX10_signOf_103 (v := 38) (by decide) ?_
          refine w_iret dX10_signOf_105 (fun _ e => by cases e; rfl) ?_
          simp only [sgI, sg2, sg3, sg4] at k; simp only [if_pos c_3, if_pos c_22, if_pos c_41, if_neg s_35, if_neg s_45, if_pos s_46] at k; exact k
        by_cases s_95 : b = 95
        · refine w_lkE (off := 41) (tgt := 100) s_95 dX10_signOf_59 (by decide) (by decide) (by decide) ?_
          refine w_bipush dX10_signOf_100 (v := 37) (by decide) ?_
          refine w_iret dX10_signOf_102 (fun _ e => by cases e; rfl) ?_
          simp only [sgI, sg2, sg3, sg4] at k; simp only [if_pos c_3, if_pos c_22, if_pos c_41, if_neg s_35, if_neg s_45, if_neg s_46, if_pos s_95] at k; exact k
        refine w_lookup (off := 53) (tgt := 112) dX10_signOf_59 (by decide) (by rw [lv_osw s_35 (by decide), lv_osw s_45 (by decide), lv_osw s_46 (by decide), lv_osw s_95 (by decide)]; rfl) (by decide) ?_
        refine w_iconst dX10_signOf_112 (v := 0) (by decide) ?_
        refine w_iret dX10_signOf_113 (fun _ e => by cases e; rfl) ?_
        simp only [sgI, sg2, sg3, sg4] at k; simp only [if_pos c_3, if_pos c_22, if_pos c_41, if_neg s_35, if_neg s_45, if_neg s_46, if_neg s_95] at k; exact k
      · refine w_iload_n dX10_signOf_44 rfl rfl ?_
        refine w_bipush dX10_signOf_45 (v := 57) (by decide) ?_
        refine w_icmp_gt (tgt := 58) dX10_signOf_47 (by decide) (fun c_47 => ?_) (fun c_47 => ?_)
        · refine w_iload_n dX10_signOf_58 rfl rfl ?_
          by_cases s_35 : b = 35
          · refine w_lkE (off := 47) (tgt := 106) s_35 dX10_signOf_59 (by decide) (by decide) (by decide) ?_
            refine w_bipush dX10_signOf_106 (v := 39) (by decide) ?_
            refine w_iret dX10_signOf_108 (fun _ e => by cases e; rfl) ?_
            simp only [sgI, sg2, sg3, sg4] at k; simp only [if_pos c_3, if_pos c_22, if_neg c_41, if_pos c_47, if_pos s_35] at k; exact k
          by_cases s_45 : b = 45
          · refine w_lkE (off := 50) (tgt := 109) s_45 dX10_signOf_59 (by decide) (by decide) (by decide) ?_
            refine w_bipush dX10_signOf_109 (v := 40) (by decide) ?_
            refine w_iret dX10_signOf_111 (fun _ e => by cases e; rfl) ?_
            simp only [sgI, sg2, sg3, sg4] at k; simp only [if_pos c_3, if_pos c_22, if_neg c_41, if_pos c_47, if_neg s_35, if_pos s_45] at k; exact k
          by_cases s_46 : b = 46
          · refine w_lkE (off := 44) (tgt := 103) s_46 dX10_signOf_59 (by decide) (by decide) (by decide) ?_
            refine w_bipush dX10_signOf_103 (v := 38) (by decide) ?_
            refine w_iret dX10_signOf_105 (fun _ e => by cases e; rfl) ?_
            simp only [sgI, sg2, sg3, sg4] at k; simp only [if_pos c_3, if_pos c_22, if_neg c_41, if_pos c_47, if_neg s_35, if_neg s_45, if_pos s_46] at k; exact k
          by_cases s_95 : b = 95
          · refine w_lkE (off := 41) (tgt := 100) s_95 dX10_signOf_59 (by decide) (by decide) (by decide) ?_
            refine w_bipush dX10_signOf_100 (v := 37) (by decide) ?_
            refine w_iret dX10_signOf_102 (fun _ e => by cases e; rfl) ?_
            simp only [sgI, sg2, sg3, sg4] at k; simp only [if_pos c_3, if_pos c_22, if_neg c_41, if_pos c_47, if_neg s_35, if_neg s_45, if_neg s_46, if_pos s_95] at k; exact k
          refine w_lookup (off := 53) (tgt := 112) dX10_signOf_59 (by decide) (by rw [lv_osw s_35 (by decide), lv_osw s_45 (by decide), lv_osw s_46 (by decide), lv_osw s_95 (by decide)]; rfl) (by decide) ?_
          refine w_iconst dX10_signOf_112 (v := 0) (by decide) ?_
          refine w_iret dX10_signOf_113 (fun _ e => by cases e; rfl) ?_
          simp only [sgI, sg2, sg3, sg4] at k; simp only [if_pos c_3, if_pos c_22, if_neg c_41, if_pos c_47, if_neg s_35, if_neg s_45, if_neg s_46, if_neg s_95] at k; exact k
        · refine w_iload_n dX10_signOf_50 rfl rfl ?_
          refine w_bipush dX10_signOf_51 (v := 48) (by decide) ?_
          refine w_isub dX10_signOf_53 ?_
          refine w_bipush dX10_signOf_54 (v := 27) (by decide) ?_
          refine w_iadd dX10_signOf_56 ?_
          refine w_iret dX10_signOf_57 (fun _ e => by cases e; rfl) ?_
          simp only [sgI, sg2, sg3, sg4] at k; simp only [if_pos c_3, if_pos c_22, if_neg c_41, if_neg c_47] at k; exact k
    · refine w_iload_n dX10_signOf_25 rfl rfl ?_
      refine w_bipush dX10_signOf_26 (v := 122) (by decide) ?_
      refine w_icmp_gt (tgt := 38) dX10_signOf_28 (by decide) (fun c_28 => ?_) (fun c_28 => ?_)
      · refine w_iload_n dX10_signOf_38 rfl rfl ?_
        refine w_bipush dX10_signOf_39 (v := 48) (by decide) ?_
        refine w_icmp_lt (tgt := 58) dX10_signOf_41 (by decide) (fun c_41 => ?_) (fun c_41 => ?_)
        · refine w_iload_n dX10_signOf_58 rfl rfl ?_
          by_cases s_35 : b = 35
          · refine w_lkE (off := 47) (tgt := 106) s_35 dX10_signOf_59 (by decide) (by decide) (by decide) ?_
            refine w_bipush dX10_signOf_106 (v := 39) (by decide) ?_
            refine w_iret dX10_signOf_108 (fun _ e => by cases e; rfl) ?_
            simp only [sgI, sg2, sg3, sg4] at k; simp only [if_pos c_3, if_neg c_22, if_pos c_28, if_pos c_41, if_pos s_35] at k; exact k
          by_cases s_45 : b = 45
          · refine w_lkE (off := 50) (tgt := 109) s_45 dX10_signOf_59 (by decide) (by decide) (by decide) ?_
            refine w_bipush dX10_signOf_109 (v := 40) (by decide) ?_
            refine w_iret dX10_signOf_111 (fun _ e => by cases e; rfl) ?_
            simp only [sgI, sg2, sg3, sg4] at k; simp only [if_pos c_3, if_neg c_22, if_pos c_28, if_pos c_41, if_neg s_35, if_pos s_45] at k; exact k
          by_cases s_46 : b = 46
          · refine w_lkE (off := 44) (tgt := 103) s_46 dX10_signOf_59 (by decide) (by decide) (by decide) ?_
            refine w_bipush dX10_signOf_103 (v := 38) (by decide) ?_
            refine w_iret dX10_signOf_105 (fun _ e => by cases e; rfl) ?_
            simp only [sgI, sg2, sg3, sg4] at k; simp only [if_pos c_3, if_neg c_22, if_pos c_28, if_pos c_41, if_neg s_35, if_neg s_45, if_pos s_46] at k; exact k
          by_cases s_95 : b = 95
          · refine w_lkE (off := 41) (tgt := 100) s_95 dX10_signOf_59 (by decide) (by decide) (by decide) ?_
            refine w_bipush dX10_signOf_100 (v := 37) (by decide) ?_
            refine w_iret dX10_signOf_102 (fun _ e => by cases e; rfl) ?_
            simp only [sgI, sg2, sg3, sg4] at k; simp only [if_pos c_3, if_neg c_22, if_pos c_28, if_pos c_41, if_neg s_35, if_neg s_45, if_neg s_46, if_pos s_95] at k; exact k
          refine w_lookup (off := 53) (tgt := 112) dX10_signOf_59 (by decide) (by rw [lv_osw s_35 (by decide), lv_osw s_45 (by decide), lv_osw s_46 (by decide), lv_osw s_95 (by decide)]; rfl) (by decide) ?_
          refine w_iconst dX10_signOf_112 (v := 0) (by decide) ?_
          refine w_iret dX10_signOf_113 (fun _ e => by cases e; rfl) ?_
          simp only [sgI, sg2, sg3, sg4] at k; simp only [if_pos c_3, if_neg c_22, if_pos c_28, if_pos c_41, if_neg s_35, if_neg s_45, if_neg s_46, if_neg s_95] at k; exact k
        · refine w_iload_n dX10_signOf_44 rfl rfl ?_
          refine w_bipush dX10_signOf_45 (v := 57) (by decide) ?_
          refine w_icmp_gt (tgt := 58) dX10_signOf_47 (by decide) (fun c_47 => ?_) (fun c_47 => ?_)
          · refine w_iload_n dX10_signOf_58 rfl rfl ?_
            by_cases s_35 : b = 35
            · refine w_lkE (off := 47) (tgt := 106) s_35 dX10_signOf_59 (by decide) (by decide) (by decide) ?_
              refine w_bipush dX10_signOf_106 (v := 39) (by decide) ?_
              refine w_iret dX10_signOf_108 (fun _ e => by cases e; rfl) ?_
              simp only [sgI, sg2, sg3, sg4] at k; simp only [if_pos c_3, if_neg c_22, if_pos c_28, if_neg c_41, if_pos c_47, if_pos s_35] at k; exact k
            by_cases s_45 : b = 45
            · refine w_lkE (off := 50) (tgt := 109) s_45 dX10_signOf_59 (by decide) (by decide) (by decide) ?_
              refine w_bipush dX10_signOf_109 (v := 40) (by decide) ?_
              refine w_iret dX10_signOf_111 (fun _ e => by cases e; rfl) ?_
              simp only [sgI, sg2, sg3, sg4] at k; simp only [if_pos c_3, if_neg c_22, if_pos c_28, if_neg c_41, if_pos c_47, if_neg s_35, if_pos s_45] at k; exact k
            by_cases s_46 : b = 46
            · refine w_lkE (off := 44) (tgt := 103) s_46 dX10_signOf_59 (by decide) (by decide) (by decide) ?_
              refine w_bipush dX10_signOf_103 (v := 38) (by decide) ?_
              refine w_iret dX10_signOf_105 (fun _ e => by cases e; rfl) ?_
              simp only [sgI, sg2, sg3, sg4] at k; simp only [if_pos c_3, if_neg c_22, if_pos c_28, if_neg c_41, if_pos c_47, if_neg s_35, if_neg s_45, if_pos s_46] at k; exact k
            by_cases s_95 : b = 95
            · refine w_lkE (off := 41) (tgt := 100) s_95 dX10_signOf_59 (by decide) (by decide) (by decide) ?_
              refine w_bipush dX10_signOf_100 (v := 37) (by decide) ?_
              refine w_iret dX10_signOf_102 (fun _ e => by cases e; rfl) ?_
              simp only [sgI, sg2, sg3, sg4] at k; simp only [if_pos c_3, if_neg c_22, if_pos c_28, if_neg c_41, if_pos c_47, if_neg s_35, if_neg s_45, if_neg s_46, if_pos s_95] at k; exact k
            refine w_lookup (off := 53) (tgt := 112) dX10_signOf_59 (by decide) (by rw [lv_osw s_35 (by decide), lv_osw s_45 (by decide), lv_osw s_46 (by decide), lv_osw s_95 (by decide)]; rfl) (by decide) ?_
            refine w_iconst dX10_signOf_112 (v := 0) (by decide) ?_
            refine w_iret dX10_signOf_113 (fun _ e => by cases e; rfl) ?_
            simp only [sgI, sg2, sg3, sg4] at k; simp only [if_pos c_3, if_neg c_22, if_pos c_28, if_neg c_41, if_pos c_47, if_neg s_35, if_neg s_45, if_neg s_46, if_neg s_95] at k; exact k
          · refine w_iload_n dX10_signOf_50 rfl rfl ?_
            refine w_bipush dX10_signOf_51 (v := 48) (by decide) ?_
            refine w_isub dX10_signOf_53 ?_
            refine w_bipush dX10_signOf_54 (v := 27) (by decide) ?_
            refine w_iadd dX10_signOf_56 ?_
            refine w_iret dX10_signOf_57 (fun _ e => by cases e; rfl) ?_
            simp only [sgI, sg2, sg3, sg4] at k; simp only [if_pos c_3, if_neg c_22, if_pos c_28, if_neg c_41, if_neg c_47] at k; exact k
      · refine w_iload_n dX10_signOf_31 rfl rfl ?_
        refine w_bipush dX10_signOf_32 (v := 97) (by decide) ?_
        refine w_isub dX10_signOf_34 ?_
        refine w_iconst dX10_signOf_35 (v := 1) (by decide) ?_
        refine w_iadd dX10_signOf_36 ?_
        refine w_iret dX10_signOf_37 (fun _ e => by cases e; rfl) ?_
        simp only [sgI, sg2, sg3, sg4] at k; simp only [if_pos c_3, if_neg c_22, if_neg c_28] at k; exact k
  · refine w_iload_n dX10_signOf_6 rfl rfl ?_
    refine w_bipush dX10_signOf_7 (v := 90) (by decide) ?_
    refine w_icmp_gt (tgt := 19) dX10_signOf_9 (by decide) (fun c_9 => ?_) (fun c_9 => ?_)
    · refine w_iload_n dX10_signOf_19 rfl rfl ?_
      refine w_bipush dX10_signOf_20 (v := 97) (by decide) ?_
      refine w_icmp_lt (tgt := 38) dX10_signOf_22 (by decide) (fun c_22 => ?_) (fun c_22 => ?_)
      · refine w_iload_n dX10_signOf_38 rfl rfl ?_
        refine w_bipush dX10_signOf_39 (v := 48) (by decide) ?_
        refine w_icmp_lt (tgt := 58) dX10_signOf_41 (by decide) (fun c_41 => ?_) (fun c_41 => ?_)
        · refine w_iload_n dX10_signOf_58 rfl rfl ?_
          by_cases s_35 : b = 35
          · refine w_lkE (off := 47) (tgt := 106) s_35 dX10_signOf_59 (by decide) (by decide) (by decide) ?_
            refine w_bipush dX10_signOf_106 (v := 39) (by decide) ?_
            refine w_iret dX10_signOf_108 (fun _ e => by cases e; rfl) ?_
            simp only [sgI, sg2, sg3, sg4] at k; simp only [if_neg c_3, if_pos c_9, if_pos c_22, if_pos c_41, if_pos s_35] at k; exact k
          by_cases s_45 : b = 45
          · refine w_lkE (off := 50) (tgt := 109) s_45 dX10_signOf_59 (by decide) (by decide) (by decide) ?_
            refine w_bipush dX10_signOf_109 (v := 40) (by decide) ?_
            refine w_iret dX10_signOf_111 (fun _ e => by cases e; rfl) ?_
            simp only [sgI, sg2, sg3, sg4] at k; simp only [if_neg c_3, if_pos c_9, if_pos c_22, if_pos c_41, if_neg s_35, if_pos s_45] at k; exact k
          by_cases s_46 : b = 46
          · refine w_lkE (off := 44) (tgt := 103) s_46 dX10_signOf_59 (by decide) (by decide) (by decide) ?_
            refine w_bipush dX10_signOf_103 (v := 38) (by decide) ?_
            refine w_iret dX10_signOf_105 (fun _ e => by cases e; rfl) ?_
            simp only [sgI, sg2, sg3, sg4] at k; simp only [if_neg c_3, if_pos c_9, if_pos c_22, if_pos c_41, if_neg s_35, if_neg s_45, if_pos s_46] at k; exact k
          by_cases s_95 : b = 95
          · refine w_lkE (off := 41) (tgt := 100) s_95 dX10_signOf_59 (by decide) (by decide) (by decide) ?_
            refine w_bipush dX10_signOf_100 (v := 37) (by decide) ?_
            refine w_iret dX10_signOf_102 (fun _ e => by cases e; rfl) ?_
            simp only [sgI, sg2, sg3, sg4] at k; simp only [if_neg c_3, if_pos c_9, if_pos c_22, if_pos c_41, if_neg s_35, if_neg s_45, if_neg s_46, if_pos s_95] at k; exact k
          refine w_lookup (off := 53) (tgt := 112) dX10_signOf_59 (by decide) (by rw [lv_osw s_35 (by decide), lv_osw s_45 (by decide), lv_osw s_46 (by decide), lv_osw s_95 (by decide)]; rfl) (by decide) ?_
          refine w_iconst dX10_signOf_112 (v := 0) (by decide) ?_
          refine w_iret dX10_signOf_113 (fun _ e => by cases e; rfl) ?_
          simp only [sgI, sg2, sg3, sg4] at k; simp only [if_neg c_3, if_pos c_9, if_pos c_22, if_pos c_41, if_neg s_35, if_neg s_45, if_neg s_46, if_neg s_95] at k; exact k
        · refine w_iload_n dX10_signOf_44 rfl rfl ?_
          refine w_bipush dX10_signOf_45 (v := 57) (by decide) ?_
          refine w_icmp_gt (tgt := 58) dX10_signOf_47 (by decide) (fun c_47 => ?_) (fun c_47 => ?_)
          · refine w_iload_n dX10_signOf_58 rfl rfl ?_
            by_cases s_35 : b = 35
            · refine w_lkE (off := 47) (tgt := 106) s_35 dX10_signOf_59 (by decide) (by decide) (by decide) ?_
              refine w_bipush dX10_signOf_106 (v := 39) (by decide) ?_
              refine w_iret dX10_signOf_108 (fun _ e => by cases e; rfl) ?_
              simp only [sgI, sg2, sg3, sg4] at k; simp only [if_neg c_3, if_pos c_9, if_pos c_22, if_neg c_41, if_pos c_47, if_pos s_35] at k; exact k
            by_cases s_45 : b = 45
            · refine w_lkE (off := 50) (tgt := 109) s_45 dX10_signOf_59 (by decide) (by decide) (by decide) ?_
              refine w_bipush dX10_signOf_109 (v := 40) (by decide) ?_
              refine w_iret dX10_signOf_111 (fun _ e => by cases e; rfl) ?_
              simp only [sgI, sg2, sg3, sg4] at k; simp only [if_neg c_3, if_pos c_9, if_pos c_22, if_neg c_41, if_pos c_47, if_neg s_35, if_pos s_45] at k; exact k
            by_cases s_46 : b = 46
            · refine w_lkE (off := 44) (tgt := 103) s_46 dX10_signOf_59 (by decide) (by decide) (by decide) ?_
              refine w_bipush dX10_signOf_103 (v := 38) (by decide) ?_
              refine w_iret dX10_signOf_105 (fun _ e => by cases e; rfl) ?_
              simp only [sgI, sg2, sg3, sg4] at k; simp only [if_neg c_3, if_pos c_9, if_pos c_22, if_neg c_41, if_pos c_47, if_neg s_35, if_neg s_45, if_pos s_46] at k; exact k
            by_cases s_95 : b = 95
            · refine w_lkE (off := 41) (tgt := 100) s_95 dX10_signOf_59 (by decide) (by decide) (by decide) ?_
              refine w_bipush dX10_signOf_100 (v := 37) (by decide) ?_
              refine w_iret dX10_signOf_102 (fun _ e => by cases e; rfl) ?_
              simp only [sgI, sg2, sg3, sg4] at k; simp only [if_neg c_3, if_pos c_9, if_pos c_22, if_neg c_41, if_pos c_47, if_neg s_35, if_neg s_45, if_neg s_46, if_pos s_95] at k; exact k
            refine w_lookup (off := 53) (tgt := 112) dX10_signOf_59 (by decide) (by rw [lv_osw s_35 (by decide), lv_osw s_45 (by decide), lv_osw s_46 (by decide), lv_osw s_95 (by decide)]; rfl) (by decide) ?_
            refine w_iconst dX10_signOf_112 (v := 0) (by decide) ?_
            refine w_iret dX10_signOf_113 (fun _ e => by cases e; rfl) ?_
            simp only [sgI, sg2, sg3, sg4] at k; simp only [if_neg c_3, if_pos c_9, if_pos c_22, if_neg c_41, if_pos c_47, if_neg s_35, if_neg s_45, if_neg s_46, if_neg s_95] at k; exact k
          · refine w_iload_n dX10_signOf_50 rfl rfl ?_
            refine w_bipush dX10_signOf_51 (v := 48) (by decide) ?_
            refine w_isub dX10_signOf_53 ?_
            refine w_bipush dX10_signOf_54 (v := 27) (by decide) ?_
            refine w_iadd dX10_signOf_56 ?_
            refine w_iret dX10_signOf_57 (fun _ e => by cases e; rfl) ?_
            simp only [sgI, sg2, sg3, sg4] at k; simp only [if_neg c_3, if_pos c_9, if_pos c_22, if_neg c_41, if_neg c_47] at k; exact k
      · refine w_iload_n dX10_signOf_25 rfl rfl ?_
        refine w_bipush dX10_signOf_26 (v := 122) (by decide) ?_
        refine w_icmp_gt (tgt := 38) dX10_signOf_28 (by decide) (fun c_28 => ?_) (fun c_28 => ?_)
        · refine w_iload_n dX10_signOf_38 rfl rfl ?_
          refine w_bipush dX10_signOf_39 (v := 48) (by decide) ?_
          refine w_icmp_lt (tgt := 58) dX10_signOf_41 (by decide) (fun c_41 => ?_) (fun c_41 => ?_)
          · refine w_iload_n dX10_signOf_58 rfl rfl ?_
            by_cases s_35 : b = 35
            · refine w_lkE (off := 47) (tgt := 106) s_35 dX10_signOf_59 (by decide) (by decide) (by decide) ?_
              refine w_bipush dX10_signOf_106 (v := 39) (by decide) ?_
              refine w_iret dX10_signOf_108 (fun _ e => by cases e; rfl) ?_
              simp only [sgI, sg2, sg3, sg4] at k; simp only [if_neg c_3, if_pos c_9, if_neg c_22, if_pos c_28, if_pos c_41, if_pos s_35] at k; exact k
            by_cases s_45 : b = 45
            · refine w_lkE (off := 50) (tgt := 109) s_45 dX10_signOf_59 (by decide) (by decide) (by decide) ?_
              refine w_bipush dX10_signOf_109 (v := 40) (by decide) ?_
              refine w_iret dX10_signOf_111 (fun _ e => by cases e; rfl) ?_
              simp only [sgI, sg2, sg3, sg4] at k; simp only [if_neg c_3, if_pos c_9, if_neg c_22, if_pos c_28, if_pos c_41, if_neg s_35, if_pos s_45] at k; exact k
            by_cases s_46 : b = 46
            · refine w_lkE (off := 44) (tgt := 103) s_46 dX10_signOf_59 (by decide) (by decide) (by decide) ?_
              refine w_bipush dX10_signOf_103 (v := 38) (by decide) ?_
              refine w_iret dX10_signOf_105 (fun _ e => by cases e; rfl) ?_
              simp only [sgI, sg2, sg3, sg4] at k; simp only [if_neg c_3, if_pos c_9, if_neg c_22, if_pos c_28, if_pos c_41, if_neg s_35, if_neg s_45, if_pos s_46] at k; exact k
            by_cases s_95 : b = 95
            · refine w_lkE (off := 41) (tgt := 100) s_95 dX10_signOf_59 (by decide) (by decide) (by decide) ?_
              refine w_bipush dX10_signOf_100 (v := 37) (by decide) ?_
              refine w_iret dX10_signOf_102 (fun _ e => by cases e; rfl) ?_
              simp only [sgI, sg2, sg3, sg4] at k; simp only [if_neg c_3, if_pos c_9, if_neg c_22, if_pos c_28, if_pos c_41, if_neg s_35, if_neg s_45, if_neg s_46, if_pos s_95] at k; exact k
            refine w_lookup (off := 53) (tgt := 112) dX10_signOf_59 (by decide) (by rw [lv_osw s_35 (by decide), lv_osw s_45 (by decide), lv_osw s_46 (by decide), lv_osw s_95 (by decide)]; rfl) (by decide) ?_
            refine w_iconst dX10_signOf_112 (v := 0) (by decide) ?_
            refine w_iret dX10_signOf_113 (fun _ e => by cases e; rfl) ?_
            simp only [sgI, sg2, sg3, sg4] at k; simp only [if_neg c_3, if_pos c_9, if_neg c_22, if_pos c_28, if_pos c_41, if_neg s_35, if_neg s_45, if_neg s_46, if_neg s_95] at k; exact k
          · refine w_iload_n dX10_signOf_44 rfl rfl ?_
            refine w_bipush dX10_signOf_45 (v := 57) (by decide) ?_
            refine w_icmp_gt (tgt := 58) dX10_signOf_47 (by decide) (fun c_47 => ?_) (fun c_47 => ?_)
            · refine w_iload_n dX10_signOf_58 rfl rfl ?_
              by_cases s_35 : b = 35
              · refine w_lkE (off := 47) (tgt := 106) s_35 dX10_signOf_59 (by decide) (by decide) (by decide) ?_
                refine w_bipush dX10_signOf_106 (v := 39) (by decide) ?_
                refine w_iret dX10_signOf_108 (fun _ e => by cases e; rfl) ?_
                simp only [sgI, sg2, sg3, sg4] at k; simp only [if_neg c_3, if_pos c_9, if_neg c_22, if_pos c_28, if_neg c_41, if_pos c_47, if_pos s_35] at k; exact k
              by_cases s_45 : b = 45
              · refine w_lkE (off := 50) (tgt := 109) s_45 dX10_signOf_59 (by decide) (by decide) (by decide) ?_
                refine w_bipush dX10_signOf_109 (v := 40) (by decide) ?_
                refine w_iret dX10_signOf_111 (fun _ e => by cases e; rfl) ?_
                simp only [sgI, sg2, sg3, sg4] at k; simp only [if_neg c_3, if_pos c_9, if_neg c_22, if_pos c_28, if_neg c_41, if_pos c_47, if_neg s_35, if_pos s_45] at k; exact k
              by_cases s_46 : b = 46
              · refine w_lkE (off := 44) (tgt := 103) s_46 dX10_signOf_59 (by decide) (by decide) (by decide) ?_
                refine w_bipush dX10_signOf_103 (v := 38) (by decide) ?_
                refine w_iret dX10_signOf_105 (fun _ e => by cases e; rfl) ?_
                simp only [sgI, sg2, sg3, sg4] at k; simp only [if_neg c_3, if_pos c_9, if_neg c_22, if_pos c_28, if_neg c_41, if_pos c_47, if_neg s_35, if_neg s_45, if_pos s_46] at k; exact k
              by_cases s_95 : b = 95
              · refine w_lkE (off := 41) (tgt := 100) s_95 dX10_signOf_59 (by decide) (by decide) (by decide) ?_
                refine w_bipush dX10_signOf_100 (v := 37) (by decide) ?_
                refine w_iret dX10_signOf_102 (fun _ e => by cases e; rfl) ?_
                simp only [sgI, sg2, sg3, sg4] at k; simp only [if_neg c_3, if_pos c_9, if_neg c_22, if_pos c_28, if_neg c_41, if_pos c_47, if_neg s_35, if_neg s_45, if_neg s_46, if_pos s_95] at k; exact k
              refine w_lookup (off := 53) (tgt := 112) dX10_signOf_59 (by decide) (by rw [lv_osw s_35 (by decide), lv_osw s_45 (by decide), lv_osw s_46 (by decide), lv_osw s_95 (by decide)]; rfl) (by decide) ?_
              refine w_iconst dX10_signOf_112 (v := 0) (by decide) ?_
              refine w_iret dX10_signOf_113 (fun _ e => by cases e; rfl) ?_
              simp only [sgI, sg2, sg3, sg4] at k; simp only [if_neg c_3, if_pos c_9, if_neg c_22, if_pos c_28, if_neg c_41, if_pos c_47, if_neg s_35, if_neg s_45, if_neg s_46, if_neg s_95] at k; exact k
            · refine w_iload_n dX10_signOf_50 rfl rfl ?_
              refine w_bipush dX10_signOf_51 (v := 48) (by decide) ?_
              refine w_isub dX10_signOf_53 ?_
              refine w_bipush dX10_signOf_54 (v := 27) (by decide) ?_
              refine w_iadd dX10_signOf_56 ?_
              refine w_iret dX10_signOf_57 (fun _ e => by cases e; rfl) ?_
              simp only [sgI, sg2, sg3, sg4] at k; simp only [if_neg c_3, if_pos c_9, if_neg c_22, if_pos c_28, if_neg c_41, if_neg c_47] at k; exact k
        · refine w_iload_n dX10_signOf_31 rfl rfl ?_
          refine w_bipush dX10_signOf_32 (v := 97) (by decide) ?_
          refine w_isub dX10_signOf_34 ?_
          refine w_iconst dX10_signOf_35 (v := 1) (by decide) ?_
          refine w_iadd dX10_signOf_36 ?_
          refine w_iret dX10_signOf_37 (fun _ e => by cases e; rfl) ?_
          simp only [sgI, sg2, sg3, sg4] at k; simp only [if_neg c_3, if_pos c_9, if_neg c_22, if_neg c_28] at k; exact k
    · refine w_iload_n dX10_signOf_12 rfl rfl ?_
      refine w_bipush dX10_signOf_13 (v := 65) (by decide) ?_
      refine w_isub dX10_signOf_15 ?_
      refine w_iconst dX10_signOf_16 (v := 1) (by decide) ?_
      refine w_iadd dX10_signOf_17 ?_
      refine w_iret dX10_signOf_18 (fun _ e => by cases e; rfl) ?_
      simp only [sgI, sg2, sg3, sg4] at k; simp only [if_neg c_3, if_neg c_9] at k; exact k

set_option maxRecDepth 20000 in
set_option maxHeartbeats 4000000 in
/-- digitOf(b) -/
theorem T_dgI {X : Nat × (Nat → Int32)} {h : PH} {Q : Option Value → PH → Prop} {b : Int32} (k : Q (some (.int (dgI b))) h) : WP X mX10_digitOf 0 0 0 (en 1 [.int b]) [] h Q := by
  refine w_iload_n dX10_digitOf_0 rfl rfl ?_
  refine w_bipush dX10_digitOf_1 (v := 48) (by decide) ?_
  refine w_icmp_lt (tgt := 17) dX10_digitOf_3 (by decide) (fun c_3 => ?_) (fun c_3 => ?_)
  · refine w_iload_n dX10_digitOf_17 rfl rfl ?_
    refine w_bipush dX10_digitOf_18 (v := 65) (by decide) ?_
    refine w_icmp_lt (tgt := 37) dX10_digitOf_20 (by decide) (fun c_20 => ?_) (fun c_20 => ?_)
    · refine w_iload_n dX10_digitOf_37 rfl rfl ?_
      refine w_bipush dX10_digitOf_38 (v := 97) (by decide) ?_
      refine w_icmp_lt (tgt := 57) dX10_digitOf_40 (by decide) (fun c_40 => ?_) (fun c_40 => ?_)
      · refine w_bipush dX10_digitOf_57 (v := 16) (by decide) ?_
        refine w_iret dX10_digitOf_59 (fun _ e => by cases e; rfl) ?_
        simp only [dgI, dg2, dg3] at k; simp only [if_pos c_3, if_pos c_20, if_pos c_40] at k; exact k
      · refine w_iload_n dX10_digitOf_43 rfl rfl ?_
        refine w_bipush dX10_digitOf_44 (v := 102) (by decide) ?_
        refine w_icmp_gt (tgt := 57) dX10_digitOf_46 (by decide) (fun c_46 => ?_) (fun c_46 => ?_)
        · refine w_bipush dX10_digitOf_57 (v := 16) (by decide) ?_
          refine w_iret dX10_digitOf_59 (fun _ e => by cases e; rfl) ?_
          simp only [dgI, dg2, dg3] at k; simp only [if_pos c_3, if_pos c_20, if_neg c_40, if_pos c_46] at k; exact k
        · refine w_iload_n dX10_digitOf_49 rfl rfl ?_
          refine w_bipush dX10_digitOf_50 (v := 97) (by decide) ?_
          refine w_isub dX10_digitOf_52 ?_
          refine w_bipush dX10_digitOf_53 (v := 10) (by decide) ?_
          refine w_iadd dX10_digitOf_55 ?_
          refine w_iret dX10_digitOf_56 (fun _ e => by cases e; rfl) ?_
          simp only [dgI, dg2, dg3] at k; simp only [if_pos c_3, if_pos c_20, if_neg c_40, if_neg c_46] at k; exact k
    · refine w_iload_n dX10_digitOf_23 rfl rfl ?_
      refine w_bipush dX10_digitOf_24 (v := 70) (by decide) ?_
      refine w_icmp_gt (tgt := 37) dX10_digitOf_26 (by decide) (fun c_26 => ?_) (fun c_26 => ?_)
      · refine w_iload_n dX10_digitOf_37 rfl rfl ?_
        refine w_bipush dX10_digitOf_38 (v := 97) (by decide) ?_
        refine w_icmp_lt (tgt := 57) dX10_digitOf_40 (by decide) (fun c_40 => ?_) (fun c_40 => ?_)
        · refine w_bipush dX10_digitOf_57 (v := 16) (by decide) ?_
          refine w_iret dX10_digitOf_59 (fun _ e => by cases e; rfl) ?_
          simp only [dgI, dg2, dg3] at k; simp only [if_pos c_3, if_neg c_20, if_pos c_26, if_pos c_40] at k; exact k
        · refine w_iload_n dX10_digitOf_43 rfl rfl ?_
          refine w_bipush dX10_digitOf_44 (v := 102) (by decide) ?_
          refine w_icmp_gt (tgt := 57) dX10_digitOf_46 (by decide) (fun c_46 => ?_) (fun c_46 => ?_)
          · refine w_bipush dX10_digitOf_57 (v := 16) (by decide) ?_
            refine w_iret dX10_digitOf_59 (fun _ e => by cases e; rfl) ?_
            simp only [dgI, dg2, dg3] at k; simp only [if_pos c_3, if_neg c_20, if_pos c_26, if_neg c_40, if_pos c_46] at k; exact k
          · refine w_iload_n dX10_digitOf_49 rfl rfl ?_
            refine w_bipush dX10_digitOf_50 (v := 97) (by decide) ?_
            refine w_isub dX10_digitOf_52 ?_
            refine w_bipush dX10_digitOf_53 (v := 10) (by decide) ?_
            refine w_iadd dX10_digitOf_55 ?_
            refine w_iret dX10_digitOf_56 (fun _ e => by cases e; rfl) ?_
            simp only [dgI, dg2, dg3] at k; simp only [if_pos c_3, if_neg c_20, if_pos c_26, if_neg c_40, if_neg c_46] at k; exact k
      · refine w_iload_n dX10_digitOf_29 rfl rfl ?_
        refine w_bipush dX10_digitOf_30 (v := 65) (by decide) ?_
        refine w_isub dX10_digitOf_32 ?_
        refine w_bipush dX10_digitOf_33 (v := 10) (by decide) ?_
        refine w_iadd dX10_digitOf_35 ?_
        refine w_iret dX10_digitOf_36 (fun _ e => by cases e; rfl) ?_
        simp only [dgI, dg2, dg3] at k; simp only [if_pos c_3, if_neg c_20, if_neg c_26] at k; exact k
  · refine w_iload_n dX10_digitOf_6 rfl rfl ?_
    refine w_bipush dX10_digitOf_7 (v := 57) (by decide) ?_
    refine w_icmp_gt (tgt := 17) dX10_digitOf_9 (by decide) (fun c_9 => ?_) (fun c_9 => ?_)
    · refine w_iload_n dX10_digitOf_17 rfl rfl ?_
      refine w_bipush dX10_digitOf_18 (v := 65) (by decide) ?_
      refine w_icmp_lt (tgt := 37) dX10_digitOf_20 (by decide) (fun c_20 => ?_) (fun c_20 => ?_)
      · refine w_iload_n dX10_digitOf_37 rfl rfl ?_
        refine w_bipush dX10_digitOf_38 (v := 97) (by decide) ?_
        refine w_icmp_lt (tgt := 57) dX10_digitOf_40 (by decide) (fun c_40 => ?_) (fun c_40 => ?_)
        · refine w_bipush dX10_digitOf_57 (v := 16) (by decide) ?_
          refine w_iret dX10_digitOf_59 (fun _ e => by cases e; rfl) ?_
          simp only [dgI, dg2, dg3] at k; simp only [if_neg c_3, if_pos c_9, if_pos c_20, if_pos c_40] at k; exact k
        · refine w_iload_n dX10_digitOf_43 rfl rfl ?_
          refine w_bipush dX10_digitOf_44 (v := 102) (by decide) ?_
          refine w_icmp_gt (tgt := 57) dX10_digitOf_46 (by decide) (fun c_46 => ?_) (fun c_46 => ?_)
          · refine w_bipush dX10_digitOf_57 (v := 16) (by decide) ?_
            refine w_iret dX10_digitOf_59 (fun _ e => by cases e; rfl) ?_
            simp only [dgI, dg2, dg3] at k; simp only [if_neg c_3, if_pos c_9, if_pos c_20, if_neg c_40, if_pos c_46] at k; exact k
          · refine w_iload_n dX10_digitOf_49 rfl rfl ?_
            refine w_bipush dX10_digitOf_50 (v := 97) (by decide) ?_
            refine w_isub dX10_digitOf_52 ?_
            refine w_bipush dX10_digitOf_53 (v := 10) (by decide) ?_
            refine w_iadd dX10_digitOf_55 ?_
            refine w_iret dX10_digitOf_56 (fun _ e => by cases e; rfl) ?_
            simp only [dgI, dg2, dg3] at k; simp only [if_neg c_3, if_pos c_9, if_pos c_20, if_neg c_40, if_neg c_46] at k; exact k
      · refine w_iload_n dX10_digitOf_23 rfl rfl ?_
        refine w_bipush dX10_digitOf_24 (v := 70) (by decide) ?_
        refine w_icmp_gt (tgt := 37) dX10_digitOf_26 (by decide) (fun c_26 => ?_) (fun c_26 => ?_)
        · refine w_iload_n dX10_digitOf_37 rfl rfl ?_
          refine w_bipush dX10_digitOf_38 (v := 97) (by decide) ?_
          refine w_icmp_lt (tgt := 57) dX10_digitOf_40 (by decide) (fun c_40 => ?_) (fun c_40 => ?_)
          · refine w_bipush dX10_digitOf_57 (v := 16) (by decide) ?_
            refine w_iret dX10_digitOf_59 (fun _ e => by cases e; rfl) ?_
            simp only [dgI, dg2, dg3] at k; simp only [if_neg c_3, if_pos c_9, if_neg c_20, if_pos c_26, if_pos c_40] at k; exact k
          · refine w_iload_n dX10_digitOf_43 rfl rfl ?_
            refine w_bipush dX10_digitOf_44 (v := 102) (by decide) ?_
            refine w_icmp_gt (tgt := 57) dX10_digitOf_46 (by decide) (fun c_46 => ?_) (fun c_46 => ?_)
            · refine w_bipush dX10_digitOf_57 (v := 16) (by decide) ?_
              refine w_iret dX10_digitOf_59 (fun _ e => by cases e; rfl) ?_
              simp only [dgI, dg2, dg3] at k; simp only [if_neg c_3, if_pos c_9, if_neg c_20, if_pos c_26, if_neg c_40, if_pos c_46] at k; exact k
            · refine w_iload_n dX10_digitOf_49 rfl rfl ?_
              refine w_bipush dX10_digitOf_50 (v := 97) (by decide) ?_
              refine w_isub dX10_digitOf_52 ?_
              refine w_bipush dX10_digitOf_53 (v := 10) (by decide) ?_
              refine w_iadd dX10_digitOf_55 ?_
              refine w_iret dX10_digitOf_56 (fun _ e => by cases e; rfl) ?_
              simp only [dgI, dg2, dg3] at k; simp only [if_neg c_3, if_pos c_9, if_neg c_20, if_pos c_26, if_neg c_40, if_neg c_46] at k; exact k
        · refine w_iload_n dX10_digitOf_29 rfl rfl ?_
          refine w_bipush dX10_digitOf_30 (v := 65) (by decide) ?_
          refine w_isub dX10_digitOf_32 ?_
          refine w_bipush dX10_digitOf_33 (v := 10) (by decide) ?_
          refine w_iadd dX10_digitOf_35 ?_
          refine w_iret dX10_digitOf_36 (fun _ e => by cases e; rfl) ?_
          simp only [dgI, dg2, dg3] at k; simp only [if_neg c_3, if_pos c_9, if_neg c_20, if_neg c_26] at k; exact k
    · refine w_iload_n dX10_digitOf_12 rfl rfl ?_
      refine w_bipush dX10_digitOf_13 (v := 48) (by decide) ?_
      refine w_isub dX10_digitOf_15 ?_
      refine w_iret dX10_digitOf_16 (fun _ e => by cases e; rfl) ?_
      simp only [dgI, dg2, dg3] at k; simp only [if_neg c_3, if_neg c_9] at k; exact k

set_option maxRecDepth 20000 in
set_option maxHeartbeats 4000000 in
/-- meaning(b) -/
theorem T_mnI {X : Nat × (Nat → Int32)} {h : PH} {Q : Option Value → PH → Prop} {b : Int32} (k : Q (some (.int (mnI b))) h) : WP X mX10_meaning 0 0 0 (en 1 [.int b]) [] h Q := by
  refine w_iload_n dX10_meaning_0 rfl rfl ?_
  by_cases s_34 : b = 34
  · refine w_lkE (off := 59) (tgt := 60) s_34 dX10_meaning_1 (by decide) (by decide) (by decide) ?_
    refine w_iload_n dX10_meaning_60 rfl rfl ?_
    refine w_iret dX10_meaning_61 (fun _ e => by cases e; rfl) ?_
    rw [mnI] at k; simp only [if_pos s_34] at k; exact k
  by_cases s_48 : b = 48
  · refine w_lkE (off := 57) (tgt := 58) s_48 dX10_meaning_1 (by decide) (by decide) (by decide) ?_
    refine w_iconst dX10_meaning_58 (v := 0) (by decide) ?_
    refine w_iret dX10_meaning_59 (fun _ e => by cases e; rfl) ?_
    rw [mnI] at k; simp only [if_neg s_34, if_pos s_48] at k; exact k
  by_cases s_92 : b = 92
  · refine w_lkE (off := 59) (tgt := 60) s_92 dX10_meaning_1 (by decide) (by decide) (by decide) ?_
    refine w_iload_n dX10_meaning_60 rfl rfl ?_
    refine w_iret dX10_meaning_61 (fun _ e => by cases e; rfl) ?_
    rw [mnI] at k; simp only [if_neg s_34, if_neg s_48, if_pos s_92] at k; exact k
  by_cases s_110 : b = 110
  · refine w_lkE (off := 51) (tgt := 52) s_110 dX10_meaning_1 (by decide) (by decide) (by decide) ?_
    refine w_bipush dX10_meaning_52 (v := 10) (by decide) ?_
    refine w_iret dX10_meaning_54 (fun _ e => by cases e; rfl) ?_
    rw [mnI] at k; simp only [if_neg s_34, if_neg s_48, if_neg s_92, if_pos s_110] at k; exact k
  by_cases s_116 : b = 116
  · refine w_lkE (off := 54) (tgt := 55) s_116 dX10_meaning_1 (by decide) (by decide) (by decide) ?_
    refine w_bipush dX10_meaning_55 (v := 9) (by decide) ?_
    refine w_iret dX10_meaning_57 (fun _ e => by cases e; rfl) ?_
    rw [mnI] at k; simp only [if_neg s_34, if_neg s_48, if_neg s_92, if_neg s_110, if_pos s_116] at k; exact k
  refine w_lookup (off := 61) (tgt := 62) dX10_meaning_1 (by decide) (by rw [lv_osw s_34 (by decide), lv_osw s_48 (by decide), lv_osw s_92 (by decide), lv_osw s_110 (by decide), lv_osw s_116 (by decide)]; rfl) (by decide) ?_
  refine w_iconst dX10_meaning_62 (v := (-1)) (by decide) ?_
  refine w_iret dX10_meaning_63 (fun _ e => by cases e; rfl) ?_
  rw [mnI] at k; simp only [if_neg s_34, if_neg s_48, if_neg s_92, if_neg s_110, if_neg s_116] at k; exact k

abbrev KS : Type := (Nat → Int32) × Int64 × Int64 × Option Nat
/-- the class's Tokens are κ, its TAPE T -/
def RK (h : PH) (T : List Int32) (κ : KS) : Prop := St h ∧ BY 1 2 4000 h T ∧ (∀ k, 1 ≤ k → k < 5 → hI h 12 k = κ.1 k) ∧ hL h 12 6 = κ.2.1 ∧ hL h 12 7 = κ.2.2.1 ∧ hR h 12 5 = κ.2.2.2
def Fk (h h' : PH) : Prop := hn h' = hn h ∧ hc h' = hc h ∧ hs h' = hs h ∧ (∀ a, a ≠ 12 → hI h' a = hI h a ∧ hL h' a = hL h a ∧ hR h' a = hR h a) ∧ ∀ k, k ≠ 5 → hR h' 12 k = hR h 12 k
theorem Fk.rf {h : PH} : Fk h h := ⟨rfl, rfl, rfl, fun _ _ => ⟨rfl, rfl, rfl⟩, fun _ _ => rfl⟩
theorem Fk.tr {h h1 h2 : PH} (q : Fk h h1) (r : Fk h1 h2) : Fk h h2 := ⟨r.1.trans q.1, r.2.1.trans q.2.1, r.2.2.1.trans q.2.2.1, fun a ha => ⟨(r.2.2.2.1 a ha).1.trans (q.2.2.2.1 a ha).1, (r.2.2.2.1 a ha).2.1.trans (q.2.2.2.1 a ha).2.1, (r.2.2.2.1 a ha).2.2.trans (q.2.2.2.1 a ha).2.2⟩, fun k hk => (r.2.2.2.2 k hk).trans (q.2.2.2.2 k hk)⟩
def kG (κ : KS) (k : Nat) (v : Int32) : KS := (va_up κ.1 k v, κ.2)
def kA (κ : KS) (v : Int64) : KS := (κ.1, v, κ.2.2)
def kB (κ : KS) (v : Int64) : KS := (κ.1, κ.2.1, v, κ.2.2.2)
def kP (κ : KS) (v : Option Nat) : KS := (κ.1, κ.2.1, κ.2.2.1, v)
theorem kG_s {κ : KS} {k : Nat} {v : Int32} : (kG κ k v).1 k = v := va_up_self _ _ _
theorem kG_o {κ : KS} {k j : Nat} {v : Int32} (e : j ≠ k) : (kG κ k v).1 j = κ.1 j := va_up_ne _ _ e
section RKS
variable {X : Nat × (Nat → Int32)} {M : MR} {d L pc idx : Nat} {k : Nat} {ty : FieldType} {f9 : Bool} {ls : List (Option Value)} {st : List Value} {h0 h : PH} {T : List Int32} {κ : KS} {Q : Option Value → PH → Prop} {v : Int32} {w : Int64} {u : Option Nat}
theorem Fk.i (f : Fk h0 h) : Fk h0 (sI h 12 k v) := ⟨f.1, f.2.1, f.2.2.1, fun a ha => ⟨by rw [← (f.2.2.2.1 a ha).1]; exact up2_o _ _ _ ha, (f.2.2.2.1 a ha).2.1, (f.2.2.2.1 a ha).2.2⟩, f.2.2.2.2⟩
theorem Fk.l (f : Fk h0 h) : Fk h0 (sL h 12 k w) := ⟨f.1, f.2.1, f.2.2.1, fun a ha => ⟨(f.2.2.2.1 a ha).1, by rw [← (f.2.2.2.1 a ha).2.1]; exact up2_o _ _ _ ha, (f.2.2.2.1 a ha).2.2⟩, f.2.2.2.2⟩
theorem Fk.r (f : Fk h0 h) : Fk h0 (sR h 12 5 u) := ⟨f.1, f.2.1, f.2.2.1, fun a ha => ⟨(f.2.2.2.1 a ha).1, (f.2.2.2.1 a ha).2.1, by rw [← (f.2.2.2.1 a ha).2.2]; exact up2_o _ _ _ ha⟩, fun j hj => by rw [← f.2.2.2.2 j hj, rR, if_pos rfl, if_neg hj]⟩
theorem RK.i (q : RK h T κ) (hk : 1 ≤ k ∧ k < 5) : RK (sI h 12 k v) T (kG κ k v) := by
  obtain ⟨q1, q2, q3, q4⟩ := q
  refine ⟨q1.i, ⟨(rI_a (by decide)).trans q2.1, q2.2.1, fun i w hw => (congrArg (· &&& 255) (rI_a (by decide))).trans (q2.2.2 i w hw)⟩, fun j h1 h2 => ?_, q4⟩
  by_cases e : j = k
  · rw [e, rI_s, kG_s]
  · rw [rI_k e, kG_o e]; exact q3 j h1 h2
theorem kx_get (q : RK h T κ) (hd : decode M.2.1 pc = .ok (.getfield idx, 3)) (hf : FL M.1 idx 7 k ty f9) (h0 : fk 7 k = 0) (hk : 1 ≤ k ∧ k < 5) (kk : WP X M d L (pc + 3) ls (.int (κ.1 k) :: st) h Q) : WP X M d L pc ls (.ref 12 :: st) h Q :=
  w_gi q.1 hd hf h0 rfl (by decide) (by rw [q.2.2.1 k hk.1 hk.2]; exact kk)
theorem kx_get1 (q : RK h T κ) (hd : decode M.2.1 pc = .ok (.getfield idx, 3)) (hf : FL M.1 idx 7 1 ty f9) (kk : WP X M d L (pc + 3) ls (.int (κ.1 1) :: st) h Q) : WP X M d L pc ls (.ref 12 :: st) h Q := kx_get q hd hf rfl (by decide) kk
theorem kx_get2 (q : RK h T κ) (hd : decode M.2.1 pc = .ok (.getfield idx, 3)) (hf : FL M.1 idx 7 2 ty f9) (kk : WP X M d L (pc + 3) ls (.int (κ.1 2) :: st) h Q) : WP X M d L pc ls (.ref 12 :: st) h Q := kx_get q hd hf rfl (by decide) kk
theorem kx_get3 (q : RK h T κ) (hd : decode M.2.1 pc = .ok (.getfield idx, 3)) (hf : FL M.1 idx 7 3 ty f9) (kk : WP X M d L (pc + 3) ls (.int (κ.1 3) :: st) h Q) : WP X M d L pc ls (.ref 12 :: st) h Q := kx_get q hd hf rfl (by decide) kk
theorem kx_get4 (q : RK h T κ) (hd : decode M.2.1 pc = .ok (.getfield idx, 3)) (hf : FL M.1 idx 7 4 ty f9) (kk : WP X M d L (pc + 3) ls (.int (κ.1 4) :: st) h Q) : WP X M d L pc ls (.ref 12 :: st) h Q := kx_get q hd hf rfl (by decide) kk
theorem kx_len (q : RK h T κ) (hd : decode M.2.1 pc = .ok (.getfield idx, 3)) (hf : FL M.1 idx 1 1 ty f9) (kk : WP X M d L (pc + 3) ls (.int (nI T.length) :: st) h Q) : WP X M d L pc ls (.ref 1 :: st) h Q := w_gi q.1 hd hf rfl rfl (by decide) (by rw [q.2.1.1]; exact kk)
theorem kx_put (f : Fk h0 h) (q : RK h T κ) (hd : decode M.2.1 pc = .ok (.putfield idx, 3)) (hf : FL M.1 idx 7 k .int false) (h9 : fk 7 k = 0) (hk : 1 ≤ k ∧ k < 5) (kk : ∀ h', Fk h0 h' → RK h' T (kG κ k v) → WP X M d L (pc + 3) ls st h' Q) : WP X M d L pc ls (.int v :: .ref 12 :: st) h Q :=
  w_pi q.1 hd hf h9 rfl (by decide) (kk _ f.i (q.i hk))
theorem kx_put1 (f : Fk h0 h) (q : RK h T κ) (hd : decode M.2.1 pc = .ok (.putfield idx, 3)) (hf : FL M.1 idx 7 1 .int false) (kk : ∀ h', Fk h0 h' → RK h' T (kG κ 1 v) → WP X M d L (pc + 3) ls st h' Q) : WP X M d L pc ls (.int v :: .ref 12 :: st) h Q := kx_put f q hd hf rfl (by decide) kk
theorem kx_put2 (f : Fk h0 h) (q : RK h T κ) (hd : decode M.2.1 pc = .ok (.putfield idx, 3)) (hf : FL M.1 idx 7 2 .int false) (kk : ∀ h', Fk h0 h' → RK h' T (kG κ 2 v) → WP X M d L (pc + 3) ls st h' Q) : WP X M d L pc ls (.int v :: .ref 12 :: st) h Q := kx_put f q hd hf rfl (by decide) kk
theorem kx_put3 (f : Fk h0 h) (q : RK h T κ) (hd : decode M.2.1 pc = .ok (.putfield idx, 3)) (hf : FL M.1 idx 7 3 .int false) (kk : ∀ h', Fk h0 h' → RK h' T (kG κ 3 v) → WP X M d L (pc + 3) ls st h' Q) : WP X M d L pc ls (.int v :: .ref 12 :: st) h Q := kx_put f q hd hf rfl (by decide) kk
theorem kx_put4 (f : Fk h0 h) (q : RK h T κ) (hd : decode M.2.1 pc = .ok (.putfield idx, 3)) (hf : FL M.1 idx 7 4 .int false) (kk : ∀ h', Fk h0 h' → RK h' T (kG κ 4 v) → WP X M d L (pc + 3) ls st h' Q) : WP X M d L pc ls (.int v :: .ref 12 :: st) h Q := kx_put f q hd hf rfl (by decide) kk
theorem kx_gA (q : RK h T κ) (hd : decode M.2.1 pc = .ok (.getfield idx, 3)) (hf : FL M.1 idx 7 6 ty f9) (kk : WP X M d L (pc + 3) ls (.long κ.2.1 :: st) h Q) : WP X M d L pc ls (.ref 12 :: st) h Q := w_gl q.1 hd hf rfl rfl (by decide) (by rw [q.2.2.2.1]; exact kk)
theorem kx_gB (q : RK h T κ) (hd : decode M.2.1 pc = .ok (.getfield idx, 3)) (hf : FL M.1 idx 7 7 ty f9) (kk : WP X M d L (pc + 3) ls (.long κ.2.2.1 :: st) h Q) : WP X M d L pc ls (.ref 12 :: st) h Q := w_gl q.1 hd hf rfl rfl (by decide) (by rw [q.2.2.2.2.1]; exact kk)
theorem kx_pA (f : Fk h0 h) (q : RK h T κ) (hd : decode M.2.1 pc = .ok (.putfield idx, 3)) (hf : FL M.1 idx 7 6 .long false) (kk : ∀ h', Fk h0 h' → RK h' T (kA κ w) → WP X M d L (pc + 3) ls st h' Q) : WP X M d L pc ls (.long w :: .ref 12 :: st) h Q :=
  w_pl q.1 hd hf rfl rfl (by decide) (kk _ f.l ⟨q.1.l, q.2.1, q.2.2.1, by rw [rL, if_pos rfl, if_pos rfl]; rfl, by rw [rL, if_pos rfl, if_neg (by decide)]; exact q.2.2.2.2.1, q.2.2.2.2.2⟩)
theorem kx_pB (f : Fk h0 h) (q : RK h T κ) (hd : decode M.2.1 pc = .ok (.putfield idx, 3)) (hf : FL M.1 idx 7 7 .long false) (kk : ∀ h', Fk h0 h' → RK h' T (kB κ w) → WP X M d L (pc + 3) ls st h' Q) : WP X M d L pc ls (.long w :: .ref 12 :: st) h Q :=
  w_pl q.1 hd hf rfl rfl (by decide) (kk _ f.l ⟨q.1.l, q.2.1, q.2.2.1, by rw [rL, if_pos rfl, if_neg (by decide)]; exact q.2.2.2.1, by rw [rL, if_pos rfl, if_pos rfl]; rfl, q.2.2.2.2.2⟩)
theorem stR_op (c : Nat) : (12, 5, c) ∉ stR := fun hc => by
  have := List.all_eq_true.mp (show stR.all (fun q => decide (¬ (q.1 = 12 ∧ q.2.1 = 5))) = true by decide) _ hc
  simp at this
theorem RK.p (q : RK h T κ) : RK (sR h 12 5 u) T (kP κ u) := ⟨q.1.r stR_op, q.2.1, q.2.2.1, q.2.2.2.1, q.2.2.2.2.1, by rw [rR, if_pos rfl, if_pos rfl]; rfl⟩
theorem kG_id (h : κ.1 k = v) : kG κ k v = κ := by
  unfold kG
  have : va_up κ.1 k v = κ.1 := by
    funext j; rw [va_upv]; split
    · next e => rw [e, h]
    · rfl
  rw [this]
theorem kG_kG {w9 : Int32} : kG (kG κ k v) k w9 = kG κ k w9 := by
  unfold kG
  congr 1
  funext j
  show va_up (va_up κ.1 k v) k w9 j = va_up κ.1 k w9 j
  simp only [va_upv]; split <;> rfl
theorem bA_T {i : Nat} (h : i < 2 ^ 31) : bA T (nI i) = bT T i := bA_n h
end RKS
