/-! told(), word(), label() of both -/
def tdS (κ : KE) (x : Int32) : Option Int32 := if x = 0 then some κ.2.1 else if x = 1 then some κ.2.2.1 else if x = 2 then some (nI κ.2.2.2.1.length) else if x = 3 then some (nI κ.2.2.2.2.2) else if x = 4 then some (nI κ.2.2.2.2.1.length) else none
def wdS (κ : KE) (x : Int32) : Option Int32 := if x < 0 then none else κ.2.2.2.1[x.toNatClampNeg]?
def lbI (κ : KE) (x : Int32) : Option Int32 := if x < 0 then none else (κ.2.2.2.2.1[x.toNatClampNeg]?).map nI
set_option maxRecDepth 20000 in
set_option maxHeartbeats 4000000 in
theorem T_ctold {X : Nat × (Nat → Int32)} {h : PH} {Q : Option Value → PH → Prop} {κ : KE} {i : Int32} (S : St h) (ck : CK h κ) (k : ∀ v, tdS κ i = some v → Q (some (.int v)) h) (k0 : tdS κ i = none → Q (some (.retAddr 85)) h) : WP X mX10_told 1 20 0 (en 2 [.ref 0, .int i]) [] h Q := by
  obtain ⟨D, hD, r4, r5, i6, i7, i8, pg⟩ := ck
  rcases hD with rfl | rfl
  · refine w_iload_n dX10_told_0 rfl rfl ?_
    by_cases s_0 : i = 0
    · refine w_tbE (off := 35) (tgt := 36) s_0 dX10_told_1 (by decide) (by decide) (by decide) (by decide) ?_
      refine w_aload_n dX10_told_36 rfl rfl ?_
      refine w_gs (b := 3) S dX10_told_37 fX10_23 (by decide) rfl rfl (by decide) ?_
      refine w_gi S dX10_told_40 fX10_59 rfl rfl (by decide) ?_
      refine w_iret dX10_told_43 (fun _ e => by cases e; rfl) ?_
      rw [i7]; exact k _ (by unfold tdS; rw [if_pos s_0])
    by_cases s_1 : i = 1
    · refine w_tbE (off := 43) (tgt := 44) s_1 dX10_told_1 (by decide) (by decide) (by decide) (by decide) ?_
      refine w_aload_n dX10_told_44 rfl rfl ?_
      refine w_gs (b := 3) S dX10_told_45 fX10_23 (by decide) rfl rfl (by decide) ?_
      refine w_gi S dX10_told_48 fX10_62 rfl rfl (by decide) ?_
      refine w_iret dX10_told_51 (fun _ e => by cases e; rfl) ?_
      rw [i8]; exact k _ (by unfold tdS; rw [if_neg s_0, if_pos s_1])
    by_cases s_2 : i = 2
    · refine w_tbE (off := 51) (tgt := 52) s_2 dX10_told_1 (by decide) (by decide) (by decide) (by decide) ?_
      refine w_aload_n dX10_told_52 rfl rfl ?_
      refine w_gs (b := 3) S dX10_told_53 fX10_23 (by decide) rfl rfl (by decide) ?_
      refine w_getR (b := 9) dX10_told_56 fX10_65 rfl rfl (S.lt (by decide)) r5 ?_
      refine w_gi S dX10_told_59 fX10_69 rfl rfl (by decide) ?_
      refine w_iret dX10_told_62 (fun _ e => by cases e; rfl) ?_
      rw [show hI h 9 2 = _ from pg.1.1]; exact k _ (by unfold tdS; rw [if_neg s_0, if_neg s_1, if_pos s_2])
    by_cases s_3 : i = 3
    · refine w_tbE (off := 62) (tgt := 63) s_3 dX10_told_1 (by decide) (by decide) (by decide) (by decide) ?_
      refine w_aload_n dX10_told_63 rfl rfl ?_
      refine w_gs (b := 3) S dX10_told_64 fX10_23 (by decide) rfl rfl (by decide) ?_
      refine w_getR (b := 9) dX10_told_67 fX10_65 rfl rfl (S.lt (by decide)) r5 ?_
      refine w_gi S dX10_told_70 fX10_74 rfl rfl (by decide) ?_
      refine w_iret dX10_told_73 (fun _ e => by cases e; rfl) ?_
      rw [show hI h 9 4 = _ from pg.2.2.2.2.1]; exact k _ (by unfold tdS; rw [if_neg s_0, if_neg s_1, if_neg s_2, if_pos s_3])
    by_cases s_4 : i = 4
    · refine w_tbE (off := 73) (tgt := 74) s_4 dX10_told_1 (by decide) (by decide) (by decide) (by decide) ?_
      refine w_aload_n dX10_told_74 rfl rfl ?_
      refine w_gs (b := 3) S dX10_told_75 fX10_23 (by decide) rfl rfl (by decide) ?_
      refine w_getR (b := 9) dX10_told_78 fX10_65 rfl rfl (S.lt (by decide)) r5 ?_
      refine w_gi S dX10_told_81 fX10_77 rfl rfl (by decide) ?_
      refine w_iret dX10_told_84 (fun _ e => by cases e; rfl) ?_
      rw [show hI h 9 3 = _ from pg.2.2.1.1]; exact k _ (by unfold tdS; rw [if_neg s_0, if_neg s_1, if_neg s_2, if_neg s_3, if_pos s_4])
    refine w_tableOut (tgt := 85) dX10_told_1 (by have t_0 := ne_toInt s_0 (n := 0) (by decide); have t_1 := ne_toInt s_1 (n := 1) (by decide); have t_2 := ne_toInt s_2 (n := 2) (by decide); have t_3 := ne_toInt s_3 (n := 3) (by decide); have t_4 := ne_toInt s_4 (n := 4) (by decide); omega) (by decide) ?_
    refine w_throw ?_
    exact k0 (by unfold tdS; rw [if_neg s_0, if_neg s_1, if_neg s_2, if_neg s_3, if_neg s_4])
  · refine w_iload_n dX10_told_0 rfl rfl ?_
    by_cases s_0 : i = 0
    · refine w_tbE (off := 35) (tgt := 36) s_0 dX10_told_1 (by decide) (by decide) (by decide) (by decide) ?_
      refine w_aload_n dX10_told_36 rfl rfl ?_
      refine w_gs (b := 3) S dX10_told_37 fX10_23 (by decide) rfl rfl (by decide) ?_
      refine w_gi S dX10_told_40 fX10_59 rfl rfl (by decide) ?_
      refine w_iret dX10_told_43 (fun _ e => by cases e; rfl) ?_
      rw [i7]; exact k _ (by unfold tdS; rw [if_pos s_0])
    by_cases s_1 : i = 1
    · refine w_tbE (off := 43) (tgt := 44) s_1 dX10_told_1 (by decide) (by decide) (by decide) (by decide) ?_
      refine w_aload_n dX10_told_44 rfl rfl ?_
      refine w_gs (b := 3) S dX10_told_45 fX10_23 (by decide) rfl rfl (by decide) ?_
      refine w_gi S dX10_told_48 fX10_62 rfl rfl (by decide) ?_
      refine w_iret dX10_told_51 (fun _ e => by cases e; rfl) ?_
      rw [i8]; exact k _ (by unfold tdS; rw [if_neg s_0, if_pos s_1])
    by_cases s_2 : i = 2
    · refine w_tbE (off := 51) (tgt := 52) s_2 dX10_told_1 (by decide) (by decide) (by decide) (by decide) ?_
      refine w_aload_n dX10_told_52 rfl rfl ?_
      refine w_gs (b := 3) S dX10_told_53 fX10_23 (by decide) rfl rfl (by decide) ?_
      refine w_getR (b := 6) dX10_told_56 fX10_65 rfl rfl (S.lt (by decide)) r5 ?_
      refine w_gi S dX10_told_59 fX10_69 rfl rfl (by decide) ?_
      refine w_iret dX10_told_62 (fun _ e => by cases e; rfl) ?_
      rw [show hI h 6 2 = _ from pg.1.1]; exact k _ (by unfold tdS; rw [if_neg s_0, if_neg s_1, if_pos s_2])
    by_cases s_3 : i = 3
    · refine w_tbE (off := 62) (tgt := 63) s_3 dX10_told_1 (by decide) (by decide) (by decide) (by decide) ?_
      refine w_aload_n dX10_told_63 rfl rfl ?_
      refine w_gs (b := 3) S dX10_told_64 fX10_23 (by decide) rfl rfl (by decide) ?_
      refine w_getR (b := 6) dX10_told_67 fX10_65 rfl rfl (S.lt (by decide)) r5 ?_
      refine w_gi S dX10_told_70 fX10_74 rfl rfl (by decide) ?_
      refine w_iret dX10_told_73 (fun _ e => by cases e; rfl) ?_
      rw [show hI h 6 4 = _ from pg.2.2.2.2.1]; exact k _ (by unfold tdS; rw [if_neg s_0, if_neg s_1, if_neg s_2, if_pos s_3])
    by_cases s_4 : i = 4
    · refine w_tbE (off := 73) (tgt := 74) s_4 dX10_told_1 (by decide) (by decide) (by decide) (by decide) ?_
      refine w_aload_n dX10_told_74 rfl rfl ?_
      refine w_gs (b := 3) S dX10_told_75 fX10_23 (by decide) rfl rfl (by decide) ?_
      refine w_getR (b := 6) dX10_told_78 fX10_65 rfl rfl (S.lt (by decide)) r5 ?_
      refine w_gi S dX10_told_81 fX10_77 rfl rfl (by decide) ?_
      refine w_iret dX10_told_84 (fun _ e => by cases e; rfl) ?_
      rw [show hI h 6 3 = _ from pg.2.2.1.1]; exact k _ (by unfold tdS; rw [if_neg s_0, if_neg s_1, if_neg s_2, if_neg s_3, if_pos s_4])
    refine w_tableOut (tgt := 85) dX10_told_1 (by have t_0 := ne_toInt s_0 (n := 0) (by decide); have t_1 := ne_toInt s_1 (n := 1) (by decide); have t_2 := ne_toInt s_2 (n := 2) (by decide); have t_3 := ne_toInt s_3 (n := 3) (by decide); have t_4 := ne_toInt s_4 (n := 4) (by decide); omega) (by decide) ?_
    refine w_throw ?_
    exact k0 (by unfold tdS; rw [if_neg s_0, if_neg s_1, if_neg s_2, if_neg s_3, if_neg s_4])

set_option maxRecDepth 20000 in
set_option maxHeartbeats 4000000 in
theorem T_cword {X : Nat × (Nat → Int32)} {h : PH} {Q : Option Value → PH → Prop} {κ : KE} {i : Int32} (S : St h) (ck : CK h κ) (k : ∀ v, wdS κ i = some v → Q (some (.int v)) h) (k0 : wdS κ i = none → Q (some (.retAddr 20)) h) : WP X mX10_word 1 20 0 (en 3 [.ref 0, .int i]) [] h Q := by
  obtain ⟨D, hD, r4, r5, i6, i7, i8, pg⟩ := ck
  rcases hD with rfl | rfl
  · refine w_aload_n dX10_word_0 rfl rfl ?_
    refine w_gs (b := 3) S dX10_word_1 fX10_23 (by decide) rfl rfl (by decide) ?_
    refine w_getR (b := 9) dX10_word_4 fX10_65 rfl rfl (S.lt (by decide)) r5 ?_
    refine w_astore_n dX10_word_7 rfl (by decide) ?_
    refine w_iload_n dX10_word_8 rfl rfl ?_
    refine w_if_lt (tgt := 20) dX10_word_9 (by decide) (fun c_9 => ?_) (fun c_9 => ?_)
    · refine w_throw ?_
      exact k0 (by unfold wdS; rw [if_pos c_9])
    · refine w_iload_n dX10_word_12 rfl rfl ?_
      refine w_aload_n dX10_word_13 rfl rfl ?_
      refine w_gi S dX10_word_14 fX10_69 rfl rfl (by decide) ?_
      refine w_icmp_lt (tgt := 30) dX10_word_17 (by decide) (fun c_17 => ?_) (fun c_17 => ?_)
      · obtain ⟨j, hj, ej⟩ := nI_of c_9
        subst ej
        rw [show hI h 9 2 = _ from pg.1.1, nI_ltI hj (by have := pg.1.2; omega)] at c_17
        refine w_aload_n dX10_word_30 rfl rfl ?_
        refine w_gs (b := 10) S dX10_word_31 fX10_89 (by decide) rfl rfl (by decide) ?_
        refine w_iload_n dX10_word_34 rfl rfl ?_
        refine w_iaload dX10_word_35 rfl (S.lt (by decide)) (vp_in_nI (show j < 4096 by have := pg.1.2; omega) (by decide)) ?_
        refine w_iret dX10_word_36 (fun _ e => by cases e; rfl) ?_
        rw [nI_clamp hj, pg.2.1 j _ (List.getElem?_eq_getElem c_17)]; exact k _ (by unfold wdS; rw [if_neg c_9, nI_clamp hj, List.getElem?_eq_getElem c_17])
      · obtain ⟨j, hj, ej⟩ := nI_of c_9
        subst ej
        rw [show hI h 9 2 = _ from pg.1.1, nI_ltI hj (by have := pg.1.2; omega)] at c_17
        refine w_throw ?_
        exact k0 (by unfold wdS; rw [if_neg c_9, nI_clamp hj, List.getElem?_eq_none (Nat.le_of_not_lt c_17)])
  · refine w_aload_n dX10_word_0 rfl rfl ?_
    refine w_gs (b := 3) S dX10_word_1 fX10_23 (by decide) rfl rfl (by decide) ?_
    refine w_getR (b := 6) dX10_word_4 fX10_65 rfl rfl (S.lt (by decide)) r5 ?_
    refine w_astore_n dX10_word_7 rfl (by decide) ?_
    refine w_iload_n dX10_word_8 rfl rfl ?_
    refine w_if_lt (tgt := 20) dX10_word_9 (by decide) (fun c_9 => ?_) (fun c_9 => ?_)
    · refine w_throw ?_
      exact k0 (by unfold wdS; rw [if_pos c_9])
    · refine w_iload_n dX10_word_12 rfl rfl ?_
      refine w_aload_n dX10_word_13 rfl rfl ?_
      refine w_gi S dX10_word_14 fX10_69 rfl rfl (by decide) ?_
      refine w_icmp_lt (tgt := 30) dX10_word_17 (by decide) (fun c_17 => ?_) (fun c_17 => ?_)
      · obtain ⟨j, hj, ej⟩ := nI_of c_9
        subst ej
        rw [show hI h 6 2 = _ from pg.1.1, nI_ltI hj (by have := pg.1.2; omega)] at c_17
        refine w_aload_n dX10_word_30 rfl rfl ?_
        refine w_gs (b := 7) S dX10_word_31 fX10_89 (by decide) rfl rfl (by decide) ?_
        refine w_iload_n dX10_word_34 rfl rfl ?_
        refine w_iaload dX10_word_35 rfl (S.lt (by decide)) (vp_in_nI (show j < 4096 by have := pg.1.2; omega) (by decide)) ?_
        refine w_iret dX10_word_36 (fun _ e => by cases e; rfl) ?_
        rw [nI_clamp hj, pg.2.1 j _ (List.getElem?_eq_getElem c_17)]; exact k _ (by unfold wdS; rw [if_neg c_9, nI_clamp hj, List.getElem?_eq_getElem c_17])
      · obtain ⟨j, hj, ej⟩ := nI_of c_9
        subst ej
        rw [show hI h 6 2 = _ from pg.1.1, nI_ltI hj (by have := pg.1.2; omega)] at c_17
        refine w_throw ?_
        exact k0 (by unfold wdS; rw [if_neg c_9, nI_clamp hj, List.getElem?_eq_none (Nat.le_of_not_lt c_17)])

set_option maxRecDepth 20000 in
set_option maxHeartbeats 4000000 in
theorem T_clabel {X : Nat × (Nat → Int32)} {h : PH} {Q : Option Value → PH → Prop} {κ : KE} {i : Int32} (S : St h) (ck : CK h κ) (k : ∀ v, lbI κ i = some v → Q (some (.int v)) h) (k0 : lbI κ i = none → Q (some (.retAddr 20)) h) : WP X mX10_label 1 20 0 (en 3 [.ref 0, .int i]) [] h Q := by
  obtain ⟨D, hD, r4, r5, i6, i7, i8, pg⟩ := ck
  rcases hD with rfl | rfl
  · refine w_aload_n dX10_label_0 rfl rfl ?_
    refine w_gs (b := 3) S dX10_label_1 fX10_23 (by decide) rfl rfl (by decide) ?_
    refine w_getR (b := 9) dX10_label_4 fX10_65 rfl rfl (S.lt (by decide)) r5 ?_
    refine w_astore_n dX10_label_7 rfl (by decide) ?_
    refine w_iload_n dX10_label_8 rfl rfl ?_
    refine w_if_lt (tgt := 20) dX10_label_9 (by decide) (fun c_9 => ?_) (fun c_9 => ?_)
    · refine w_throw ?_
      exact k0 (by unfold lbI; rw [if_pos c_9])
    · refine w_iload_n dX10_label_12 rfl rfl ?_
      refine w_aload_n dX10_label_13 rfl rfl ?_
      refine w_gi S dX10_label_14 fX10_77 rfl rfl (by decide) ?_
      refine w_icmp_lt (tgt := 30) dX10_label_17 (by decide) (fun c_17 => ?_) (fun c_17 => ?_)
      · obtain ⟨j, hj, ej⟩ := nI_of c_9
        subst ej
        rw [show hI h 9 3 = _ from pg.2.2.1.1, nI_ltI hj (by have := pg.2.2.1.2; omega)] at c_17
        refine w_aload_n dX10_label_30 rfl rfl ?_
        refine w_gs (b := 11) S dX10_label_31 fX10_95 (by decide) rfl rfl (by decide) ?_
        refine w_iload_n dX10_label_34 rfl rfl ?_
        refine w_iaload dX10_label_35 rfl (S.lt (by decide)) (vp_in_nI (show j < 200 by have := pg.2.2.1.2; omega) (by decide)) ?_
        refine w_iret dX10_label_36 (fun _ e => by cases e; rfl) ?_
        rw [nI_clamp hj, pg.2.2.2.1 j _ (List.getElem?_eq_getElem c_17)]; exact k _ (by unfold lbI; rw [if_neg c_9, nI_clamp hj, List.getElem?_eq_getElem c_17]; rfl)
      · obtain ⟨j, hj, ej⟩ := nI_of c_9
        subst ej
        rw [show hI h 9 3 = _ from pg.2.2.1.1, nI_ltI hj (by have := pg.2.2.1.2; omega)] at c_17
        refine w_throw ?_
        exact k0 (by unfold lbI; rw [if_neg c_9, nI_clamp hj, List.getElem?_eq_none (Nat.le_of_not_lt c_17)]; rfl)
  · refine w_aload_n dX10_label_0 rfl rfl ?_
    refine w_gs (b := 3) S dX10_label_1 fX10_23 (by decide) rfl rfl (by decide) ?_
    refine w_getR (b := 6) dX10_label_4 fX10_65 rfl rfl (S.lt (by decide)) r5 ?_
    refine w_astore_n dX10_label_7 rfl (by decide) ?_
    refine w_iload_n dX10_label_8 rfl rfl ?_
    refine w_if_lt (tgt := 20) dX10_label_9 (by decide) (fun c_9 => ?_) (fun c_9 => ?_)
    · refine w_throw ?_
      exact k0 (by unfold lbI; rw [if_pos c_9])
    · refine w_iload_n dX10_label_12 rfl rfl ?_
      refine w_aload_n dX10_label_13 rfl rfl ?_
      refine w_gi S dX10_label_14 fX10_77 rfl rfl (by decide) ?_
      refine w_icmp_lt (tgt := 30) dX10_label_17 (by decide) (fun c_17 => ?_) (fun c_17 => ?_)
      · obtain ⟨j, hj, ej⟩ := nI_of c_9
        subst ej
        rw [show hI h 6 3 = _ from pg.2.2.1.1, nI_ltI hj (by have := pg.2.2.1.2; omega)] at c_17
        refine w_aload_n dX10_label_30 rfl rfl ?_
        refine w_gs (b := 8) S dX10_label_31 fX10_95 (by decide) rfl rfl (by decide) ?_
        refine w_iload_n dX10_label_34 rfl rfl ?_
        refine w_iaload dX10_label_35 rfl (S.lt (by decide)) (vp_in_nI (show j < 200 by have := pg.2.2.1.2; omega) (by decide)) ?_
        refine w_iret dX10_label_36 (fun _ e => by cases e; rfl) ?_
        rw [nI_clamp hj, pg.2.2.2.1 j _ (List.getElem?_eq_getElem c_17)]; exact k _ (by unfold lbI; rw [if_neg c_9, nI_clamp hj, List.getElem?_eq_getElem c_17]; rfl)
      · obtain ⟨j, hj, ej⟩ := nI_of c_9
        subst ej
        rw [show hI h 6 3 = _ from pg.2.2.1.1, nI_ltI hj (by have := pg.2.2.1.2; omega)] at c_17
        refine w_throw ?_
        exact k0 (by unfold lbI; rw [if_neg c_9, nI_clamp hj, List.getElem?_eq_none (Nat.le_of_not_lt c_17)]; rfl)

set_option maxRecDepth 20000 in
set_option maxHeartbeats 4000000 in
theorem T_mtold {X : Nat × (Nat → Int32)} {h : PH} {Q : Option Value → PH → Prop} {κ : KE} {i : Int32} (S : St h) (mk : MK h κ) (k : ∀ v, tdS κ i = some v → Q (some (.int v)) (sI h 25 0 0)) (k0 : tdS κ i = none → Q (some (.int 0)) (sI h 25 0 1)) : WP X mX11_told 0 0 0 (en 2 [.ref 25, .int i]) [] h Q := by
  refine w_aload_n dX11_told_0 rfl rfl ?_
  refine w_iload_n dX11_told_1 rfl rfl ?_
  refine w_if_lt (tgt := 10) dX11_told_2 (by decide) (fun c_2 => ?_) (fun c_2 => ?_)
  · refine w_iconst dX11_told_10 (v := 1) (by decide) ?_
    refine w_goto (tgt := 15) dX11_told_11 (by decide) ?_
    refine w_pi S dX11_told_15 fX11_60 rfl rfl (by decide) ?_
    refine w_iload_n dX11_told_18 rfl rfl ?_
    refine w_if_ne (tgt := 29) dX11_told_19 (by decide) (fun c_19 => ?_) (fun c_19 => ?_)
    · refine w_iload_n dX11_told_29 rfl rfl ?_
      refine w_iconst dX11_told_30 (v := 1) (by decide) ?_
      refine w_icmp_ne (tgt := 41) dX11_told_31 (by decide) (fun c_31 => ?_) (fun c_31 => ?_)
      · refine w_iload_n dX11_told_41 rfl rfl ?_
        refine w_iconst dX11_told_42 (v := 2) (by decide) ?_
        refine w_icmp_ne (tgt := 53) dX11_told_43 (by decide) (fun c_43 => ?_) (fun c_43 => ?_)
        · refine w_iload_n dX11_told_53 rfl rfl ?_
          refine w_iconst dX11_told_54 (v := 3) (by decide) ?_
          refine w_icmp_ne (tgt := 65) dX11_told_55 (by decide) (fun c_55 => ?_) (fun c_55 => ?_)
          · refine w_iload_n dX11_told_65 rfl rfl ?_
            refine w_iconst dX11_told_66 (v := 4) (by decide) ?_
            refine w_icmp_ne (tgt := 77) dX11_told_67 (by decide) (fun c_67 => ?_) (fun c_67 => ?_)
            · refine w_iconst dX11_told_77 (v := 0) (by decide) ?_
              refine w_iret dX11_told_78 (fun _ e => by cases e; rfl) ?_
              exact k0 (by unfold tdS; rw [if_neg c_19, if_neg c_31, if_neg c_43, if_neg c_55, if_neg c_67])
            · refine w_aload_n dX11_told_70 rfl rfl ?_
              refine w_gi S.i dX11_told_71 fX11_286 rfl rfl (by decide) ?_
              refine w_goto (tgt := 78) dX11_told_74 (by decide) ?_
              refine w_iret dX11_told_78 (fun _ e => by cases e; rfl) ?_
              exact absurd c_2 (by rw [c_67]; decide)
          · refine w_aload_n dX11_told_58 rfl rfl ?_
            refine w_gi S.i dX11_told_59 fX11_277 rfl rfl (by decide) ?_
            refine w_goto (tgt := 78) dX11_told_62 (by decide) ?_
            refine w_iret dX11_told_78 (fun _ e => by cases e; rfl) ?_
            exact absurd c_2 (by rw [c_55]; decide)
        · refine w_aload_n dX11_told_46 rfl rfl ?_
          refine w_gi S.i dX11_told_47 fX11_283 rfl rfl (by decide) ?_
          refine w_goto (tgt := 78) dX11_told_50 (by decide) ?_
          refine w_iret dX11_told_78 (fun _ e => by cases e; rfl) ?_
          exact absurd c_2 (by rw [c_43]; decide)
      · refine w_aload_n dX11_told_34 rfl rfl ?_
        refine w_gi S.i dX11_told_35 fX11_32 rfl rfl (by decide) ?_
        refine w_goto (tgt := 78) dX11_told_38 (by decide) ?_
        refine w_iret dX11_told_78 (fun _ e => by cases e; rfl) ?_
        exact absurd c_2 (by rw [c_31]; decide)
    · refine w_aload_n dX11_told_22 rfl rfl ?_
      refine w_gi S.i dX11_told_23 fX11_255 rfl rfl (by decide) ?_
      refine w_goto (tgt := 78) dX11_told_26 (by decide) ?_
      refine w_iret dX11_told_78 (fun _ e => by cases e; rfl) ?_
      exact absurd c_2 (by rw [c_19]; decide)
  · refine w_iload_n dX11_told_5 rfl rfl ?_
    refine w_iconst dX11_told_6 (v := 4) (by decide) ?_
    refine w_icmp_le (tgt := 14) dX11_told_7 (by decide) (fun c_7 => ?_) (fun c_7 => ?_)
    · refine w_iconst dX11_told_14 (v := 0) (by decide) ?_
      refine w_pi S dX11_told_15 fX11_60 rfl rfl (by decide) ?_
      refine w_iload_n dX11_told_18 rfl rfl ?_
      refine w_if_ne (tgt := 29) dX11_told_19 (by decide) (fun c_19 => ?_) (fun c_19 => ?_)
      · refine w_iload_n dX11_told_29 rfl rfl ?_
        refine w_iconst dX11_told_30 (v := 1) (by decide) ?_
        refine w_icmp_ne (tgt := 41) dX11_told_31 (by decide) (fun c_31 => ?_) (fun c_31 => ?_)
        · refine w_iload_n dX11_told_41 rfl rfl ?_
          refine w_iconst dX11_told_42 (v := 2) (by decide) ?_
          refine w_icmp_ne (tgt := 53) dX11_told_43 (by decide) (fun c_43 => ?_) (fun c_43 => ?_)
          · refine w_iload_n dX11_told_53 rfl rfl ?_
            refine w_iconst dX11_told_54 (v := 3) (by decide) ?_
            refine w_icmp_ne (tgt := 65) dX11_told_55 (by decide) (fun c_55 => ?_) (fun c_55 => ?_)
            · refine w_iload_n dX11_told_65 rfl rfl ?_
              refine w_iconst dX11_told_66 (v := 4) (by decide) ?_
              refine w_icmp_ne (tgt := 77) dX11_told_67 (by decide) (fun c_67 => ?_) (fun c_67 => ?_)
              · refine w_iconst dX11_told_77 (v := 0) (by decide) ?_
                refine w_iret dX11_told_78 (fun _ e => by cases e; rfl) ?_
                obtain ⟨j, hj, ej⟩ := nI_of2 (M := 4) (n := 4) rfl c_2 c_7
                have hj5 : j = 0 ∨ j = 1 ∨ j = 2 ∨ j = 3 ∨ j = 4 := by omega
                rcases hj5 with e | e | e | e | e
                · exact absurd (by rw [ej, e]; rfl) c_19
                · exact absurd (by rw [ej, e]; rfl) c_31
                · exact absurd (by rw [ej, e]; rfl) c_43
                · exact absurd (by rw [ej, e]; rfl) c_55
                · exact absurd (by rw [ej, e]; rfl) c_67
              · refine w_aload_n dX11_told_70 rfl rfl ?_
                refine w_gi S.i dX11_told_71 fX11_286 rfl rfl (by decide) ?_
                refine w_goto (tgt := 78) dX11_told_74 (by decide) ?_
                refine w_iret dX11_told_78 (fun _ e => by cases e; rfl) ?_
                rw [rI_k (by decide), mk.2.2.2.2.2.1.1]; exact k _ (by unfold tdS; rw [if_neg c_19, if_neg c_31, if_neg c_43, if_neg c_55, if_pos c_67])
            · refine w_aload_n dX11_told_58 rfl rfl ?_
              refine w_gi S.i dX11_told_59 fX11_277 rfl rfl (by decide) ?_
              refine w_goto (tgt := 78) dX11_told_62 (by decide) ?_
              refine w_iret dX11_told_78 (fun _ e => by cases e; rfl) ?_
              rw [rI_k (by decide), mk.2.2.2.2.2.2.2]; exact k _ (by unfold tdS; rw [if_neg c_19, if_neg c_31, if_neg c_43, if_pos c_55])
          · refine w_aload_n dX11_told_46 rfl rfl ?_
            refine w_gi S.i dX11_told_47 fX11_283 rfl rfl (by decide) ?_
            refine w_goto (tgt := 78) dX11_told_50 (by decide) ?_
            refine w_iret dX11_told_78 (fun _ e => by cases e; rfl) ?_
            rw [rI_k (by decide), mk.2.2.2.1.1]; exact k _ (by unfold tdS; rw [if_neg c_19, if_neg c_31, if_pos c_43])
        · refine w_aload_n dX11_told_34 rfl rfl ?_
          refine w_gi S.i dX11_told_35 fX11_32 rfl rfl (by decide) ?_
          refine w_goto (tgt := 78) dX11_told_38 (by decide) ?_
          refine w_iret dX11_told_78 (fun _ e => by cases e; rfl) ?_
          rw [rI_k (by decide), mk.2.2.1]; exact k _ (by unfold tdS; rw [if_neg c_19, if_pos c_31])
      · refine w_aload_n dX11_told_22 rfl rfl ?_
        refine w_gi S.i dX11_told_23 fX11_255 rfl rfl (by decide) ?_
        refine w_goto (tgt := 78) dX11_told_26 (by decide) ?_
        refine w_iret dX11_told_78 (fun _ e => by cases e; rfl) ?_
        rw [rI_k (by decide), mk.2.1]; exact k _ (by unfold tdS; rw [if_pos c_19])
    · refine w_iconst dX11_told_10 (v := 1) (by decide) ?_
      refine w_goto (tgt := 15) dX11_told_11 (by decide) ?_
      refine w_pi S dX11_told_15 fX11_60 rfl rfl (by decide) ?_
      refine w_iload_n dX11_told_18 rfl rfl ?_
      refine w_if_ne (tgt := 29) dX11_told_19 (by decide) (fun c_19 => ?_) (fun c_19 => ?_)
      · refine w_iload_n dX11_told_29 rfl rfl ?_
        refine w_iconst dX11_told_30 (v := 1) (by decide) ?_
        refine w_icmp_ne (tgt := 41) dX11_told_31 (by decide) (fun c_31 => ?_) (fun c_31 => ?_)
        · refine w_iload_n dX11_told_41 rfl rfl ?_
          refine w_iconst dX11_told_42 (v := 2) (by decide) ?_
          refine w_icmp_ne (tgt := 53) dX11_told_43 (by decide) (fun c_43 => ?_) (fun c_43 => ?_)
          · refine w_iload_n dX11_told_53 rfl rfl ?_
            refine w_iconst dX11_told_54 (v := 3) (by decide) ?_
            refine w_icmp_ne (tgt := 65) dX11_told_55 (by decide) (fun c_55 => ?_) (fun c_55 => ?_)
            · refine w_iload_n dX11_told_65 rfl rfl ?_
              refine w_iconst dX11_told_66 (v := 4) (by decide) ?_
              refine w_icmp_ne (tgt := 77) dX11_told_67 (by decide) (fun c_67 => ?_) (fun c_67 => ?_)
              · refine w_iconst dX11_told_77 (v := 0) (by decide) ?_
                refine w_iret dX11_told_78 (fun _ e => by cases e; rfl) ?_
                exact k0 (by unfold tdS; rw [if_neg c_19, if_neg c_31, if_neg c_43, if_neg c_55, if_neg c_67])
              · refine w_aload_n dX11_told_70 rfl rfl ?_
                refine w_gi S.i dX11_told_71 fX11_286 rfl rfl (by decide) ?_
                refine w_goto (tgt := 78) dX11_told_74 (by decide) ?_
                refine w_iret dX11_told_78 (fun _ e => by cases e; rfl) ?_
                exact absurd (show i ≤ 4 by rw [c_67]; decide) c_7
            · refine w_aload_n dX11_told_58 rfl rfl ?_
              refine w_gi S.i dX11_told_59 fX11_277 rfl rfl (by decide) ?_
              refine w_goto (tgt := 78) dX11_told_62 (by decide) ?_
              refine w_iret dX11_told_78 (fun _ e => by cases e; rfl) ?_
              exact absurd (show i ≤ 4 by rw [c_55]; decide) c_7
          · refine w_aload_n dX11_told_46 rfl rfl ?_
            refine w_gi S.i dX11_told_47 fX11_283 rfl rfl (by decide) ?_
            refine w_goto (tgt := 78) dX11_told_50 (by decide) ?_
            refine w_iret dX11_told_78 (fun _ e => by cases e; rfl) ?_
            exact absurd (show i ≤ 4 by rw [c_43]; decide) c_7
        · refine w_aload_n dX11_told_34 rfl rfl ?_
          refine w_gi S.i dX11_told_35 fX11_32 rfl rfl (by decide) ?_
          refine w_goto (tgt := 78) dX11_told_38 (by decide) ?_
          refine w_iret dX11_told_78 (fun _ e => by cases e; rfl) ?_
          exact absurd (show i ≤ 4 by rw [c_31]; decide) c_7
      · refine w_aload_n dX11_told_22 rfl rfl ?_
        refine w_gi S.i dX11_told_23 fX11_255 rfl rfl (by decide) ?_
        refine w_goto (tgt := 78) dX11_told_26 (by decide) ?_
        refine w_iret dX11_told_78 (fun _ e => by cases e; rfl) ?_
        exact absurd (show i ≤ 4 by rw [c_19]; decide) c_7

set_option maxRecDepth 20000 in
set_option maxHeartbeats 4000000 in
theorem T_mword {X : Nat × (Nat → Int32)} {h : PH} {Q : Option Value → PH → Prop} {κ : KE} {i : Int32} (S : St h) (mk : MK h κ) (k : ∀ v, wdS κ i = some v → Q (some (.int v)) (sI h 25 0 0)) (k0 : wdS κ i = none → Q (some (.int 0)) (sI h 25 0 1)) : WP X mX11_word 0 0 0 (en 2 [.ref 25, .int i]) [] h Q := by
  refine w_aload_n dX11_word_0 rfl rfl ?_
  refine w_iload_n dX11_word_1 rfl rfl ?_
  refine w_if_lt (tgt := 13) dX11_word_2 (by decide) (fun c_2 => ?_) (fun c_2 => ?_)
  · refine w_iconst dX11_word_13 (v := 1) (by decide) ?_
    refine w_goto (tgt := 18) dX11_word_14 (by decide) ?_
    refine w_pi S dX11_word_18 fX11_60 rfl rfl (by decide) ?_
    refine w_aload_n dX11_word_21 rfl rfl ?_
    refine w_gi S.i dX11_word_22 fX11_60 rfl rfl (by decide) ?_
    refine w_if_le (tgt := 32) dX11_word_25 (by decide) (fun c_25 => absurd c_25 (by rw [rI, if_pos rfl, if_pos rfl]; decide)) (fun c_25 => ?_)
    refine w_iconst dX11_word_28 (v := 0) (by decide) ?_
    refine w_goto (tgt := 38) dX11_word_29 (by decide) ?_
    refine w_iret dX11_word_38 (fun _ e => by cases e; rfl) ?_
    exact k0 (by unfold wdS; rw [if_pos c_2])
  · refine w_iload_n dX11_word_5 rfl rfl ?_
    refine w_aload_n dX11_word_6 rfl rfl ?_
    refine w_gi S dX11_word_7 fX11_283 rfl rfl (by decide) ?_
    refine w_icmp_lt (tgt := 17) dX11_word_10 (by decide) (fun c_10 => ?_) (fun c_10 => ?_)
    · obtain ⟨j, hj, ej⟩ := nI_of c_2
      subst ej
      rw [mk.2.2.2.1.1, nI_ltI hj (by have := mk.2.2.2.1.2; omega)] at c_10
      refine w_iconst dX11_word_17 (v := 0) (by decide) ?_
      refine w_pi S dX11_word_18 fX11_60 rfl rfl (by decide) ?_
      refine w_aload_n dX11_word_21 rfl rfl ?_
      refine w_gi S.i dX11_word_22 fX11_60 rfl rfl (by decide) ?_
      refine w_if_le (tgt := 32) dX11_word_25 (by decide) (fun c_25 => ?_) (fun c_25 => absurd c_25 (not_not_intro (by rw [rI, if_pos rfl, if_pos rfl]; decide)))
      refine w_aload_n dX11_word_32 rfl rfl ?_
      refine w_gs (b := 31) S.i dX11_word_33 fX11_26 (by decide) rfl rfl (by decide) ?_
      refine w_iload_n dX11_word_36 rfl rfl ?_
      refine w_iaload dX11_word_37 rfl (S.i.lt (by decide)) (vp_in_nI (show j < 4096 by have := mk.2.2.2.1.2; omega) (by decide)) ?_
      refine w_iret dX11_word_38 (fun _ e => by cases e; rfl) ?_
      rw [rI_a (by decide), nI_clamp hj, mk.2.2.2.2.1 j _ (List.getElem?_eq_getElem c_10)]; exact k _ (by unfold wdS; rw [if_neg c_2, nI_clamp hj, List.getElem?_eq_getElem c_10])
    · obtain ⟨j, hj, ej⟩ := nI_of c_2
      subst ej
      rw [mk.2.2.2.1.1, nI_ltI hj (by have := mk.2.2.2.1.2; omega)] at c_10
      refine w_iconst dX11_word_13 (v := 1) (by decide) ?_
      refine w_goto (tgt := 18) dX11_word_14 (by decide) ?_
      refine w_pi S dX11_word_18 fX11_60 rfl rfl (by decide) ?_
      refine w_aload_n dX11_word_21 rfl rfl ?_
      refine w_gi S.i dX11_word_22 fX11_60 rfl rfl (by decide) ?_
      refine w_if_le (tgt := 32) dX11_word_25 (by decide) (fun c_25 => absurd c_25 (by rw [rI, if_pos rfl, if_pos rfl]; decide)) (fun c_25 => ?_)
      refine w_iconst dX11_word_28 (v := 0) (by decide) ?_
      refine w_goto (tgt := 38) dX11_word_29 (by decide) ?_
      refine w_iret dX11_word_38 (fun _ e => by cases e; rfl) ?_
      exact k0 (by unfold wdS; rw [if_neg c_2, nI_clamp hj, List.getElem?_eq_none (Nat.le_of_not_lt c_10)])

set_option maxRecDepth 20000 in
set_option maxHeartbeats 4000000 in
theorem T_mlabel {X : Nat × (Nat → Int32)} {h : PH} {Q : Option Value → PH → Prop} {κ : KE} {i : Int32} (S : St h) (mk : MK h κ) (k : ∀ v, lbI κ i = some v → Q (some (.int v)) (sI h 25 0 0)) (k0 : lbI κ i = none → Q (some (.int 0)) (sI h 25 0 1)) : WP X mX11_label 0 0 0 (en 2 [.ref 25, .int i]) [] h Q := by
  refine w_aload_n dX11_label_0 rfl rfl ?_
  refine w_iload_n dX11_label_1 rfl rfl ?_
  refine w_if_lt (tgt := 13) dX11_label_2 (by decide) (fun c_2 => ?_) (fun c_2 => ?_)
  · refine w_iconst dX11_label_13 (v := 1) (by decide) ?_
    refine w_goto (tgt := 18) dX11_label_14 (by decide) ?_
    refine w_pi S dX11_label_18 fX11_60 rfl rfl (by decide) ?_
    refine w_aload_n dX11_label_21 rfl rfl ?_
    refine w_gi S.i dX11_label_22 fX11_60 rfl rfl (by decide) ?_
    refine w_if_le (tgt := 32) dX11_label_25 (by decide) (fun c_25 => absurd c_25 (by rw [rI, if_pos rfl, if_pos rfl]; decide)) (fun c_25 => ?_)
    refine w_iconst dX11_label_28 (v := 0) (by decide) ?_
    refine w_goto (tgt := 38) dX11_label_29 (by decide) ?_
    refine w_iret dX11_label_38 (fun _ e => by cases e; rfl) ?_
    exact k0 (by unfold lbI; rw [if_pos c_2])
  · refine w_iload_n dX11_label_5 rfl rfl ?_
    refine w_aload_n dX11_label_6 rfl rfl ?_
    refine w_gi S dX11_label_7 fX11_286 rfl rfl (by decide) ?_
    refine w_icmp_lt (tgt := 17) dX11_label_10 (by decide) (fun c_10 => ?_) (fun c_10 => ?_)
    · obtain ⟨j, hj, ej⟩ := nI_of c_2
      subst ej
      rw [mk.2.2.2.2.2.1.1, nI_ltI hj (by have := mk.2.2.2.2.2.1.2; omega)] at c_10
      refine w_iconst dX11_label_17 (v := 0) (by decide) ?_
      refine w_pi S dX11_label_18 fX11_60 rfl rfl (by decide) ?_
      refine w_aload_n dX11_label_21 rfl rfl ?_
      refine w_gi S.i dX11_label_22 fX11_60 rfl rfl (by decide) ?_
      refine w_if_le (tgt := 32) dX11_label_25 (by decide) (fun c_25 => ?_) (fun c_25 => absurd c_25 (not_not_intro (by rw [rI, if_pos rfl, if_pos rfl]; decide)))
      refine w_aload_n dX11_label_32 rfl rfl ?_
      refine w_gs (b := 32) S.i dX11_label_33 fX11_29 (by decide) rfl rfl (by decide) ?_
      refine w_iload_n dX11_label_36 rfl rfl ?_
      refine w_iaload dX11_label_37 rfl (S.i.lt (by decide)) (vp_in_nI (show j < 200 by have := mk.2.2.2.2.2.1.2; omega) (by decide)) ?_
      refine w_iret dX11_label_38 (fun _ e => by cases e; rfl) ?_
      rw [rI_a (by decide), nI_clamp hj, mk.2.2.2.2.2.2.1 j _ (List.getElem?_eq_getElem c_10)]; exact k _ (by unfold lbI; rw [if_neg c_2, nI_clamp hj, List.getElem?_eq_getElem c_10]; rfl)
    · obtain ⟨j, hj, ej⟩ := nI_of c_2
      subst ej
      rw [mk.2.2.2.2.2.1.1, nI_ltI hj (by have := mk.2.2.2.2.2.1.2; omega)] at c_10
      refine w_iconst dX11_label_13 (v := 1) (by decide) ?_
      refine w_goto (tgt := 18) dX11_label_14 (by decide) ?_
      refine w_pi S dX11_label_18 fX11_60 rfl rfl (by decide) ?_
      refine w_aload_n dX11_label_21 rfl rfl ?_
      refine w_gi S.i dX11_label_22 fX11_60 rfl rfl (by decide) ?_
      refine w_if_le (tgt := 32) dX11_label_25 (by decide) (fun c_25 => absurd c_25 (by rw [rI, if_pos rfl, if_pos rfl]; decide)) (fun c_25 => ?_)
      refine w_iconst dX11_label_28 (v := 0) (by decide) ?_
      refine w_goto (tgt := 38) dX11_label_29 (by decide) ?_
      refine w_iret dX11_label_38 (fun _ e => by cases e; rfl) ?_
      exact k0 (by unfold lbI; rw [if_neg c_2, nI_clamp hj, List.getElem?_eq_none (Nat.le_of_not_lt c_10)]; rfl)

