/-! THE CLASS's ASSEMBLER: labels and operands -/
theorem uC_lt (T : List Int32) (s : Nat) : uC T s < 7 := by
  by_cases c : sgI (bT T s) = 0
  · have := uC_z c; omega
  · rw [(sg_w c).1]; unfold wk
    split
    · decide
    split
    · decide
    split
    · decide
    split <;> decide
theorem uC_4 {T : List Int32} {s : Nat} (h : uC T s = 4) : ¬ sgI (bT T s) = 0 ∧ wd1 T s - s ≤ 20 ∧ s < T.length := by
  have c : ¬ sgI (bT T s) = 0 := fun c => by have := uC_z c; omega
  refine ⟨c, ?_, sg_in c⟩
  rw [(sg_w c).1] at h
  unfold wk at h
  split at h
  · omega
  split at h
  · omega
  split at h
  · omega
  split at h
  · rename_i g; unfold uL at g; rw [Bool.and_eq_true, decide_eq_true_eq] at g; exact g.2
  · omega
theorem lab_same {T : List Int32} (hB : Byt T) {s t : Nat} (hs : uC T s = 4) (ht : uC T t = 4) : ((uH T s).1 = (uH T t).1 ∧ (uH T s).2.1 = (uH T t).2.1) ↔ sameW T s t = true := by
  have a := uC_4 hs
  have b := uC_4 ht
  have wa := wd1_p (Nat.le_of_lt a.2.2)
  have wb := wd1_p (Nat.le_of_lt b.2.2)
  unfold sameW uH
  rw [uH_inj hB a.2.1 b.2.1 (fun i x y => wa.2.2.1 i x (by omega)) (fun i x y => wb.2.2.1 i x (by omega)), decide_eq_true_eq]
/-- what the class keeps of the LABELS -/
def LF (D : Nat) (T : List Int32) (Λ : LbS) (α : AK) : Prop := α.1 3 9 = (if Λ.1 = true then 1 else 0) ∧ α.1 D 3 = nI Λ.2.2.2 ∧ Λ.2.2.2 ≤ 200 ∧ ∀ i, i < Λ.2.2.2 → α.2.1 4 i = (uH T (Λ.2.1 i)).1 ∧ α.2.1 5 i = (uH T (Λ.2.1 i)).2.1 ∧ α.1 (D + 2) i = nI (Λ.2.2.1 i) ∧ uC T (Λ.2.1 i) = 4
def FE (D : Nat) (h0 : PH) (T : List Int32) (α : AK) (Q : Option Value → PH → Prop) (e : Int32) (p : Nat) : Prop := ∀ h' α', Fa D h0 h' → RA D h' T α' → α'.1 3 7 = e → ¬ e = 0 → α'.1 3 8 = nI p → α'.1 3 6 = α.1 3 6 → Q none h'
theorem fe1 {D : Nat} {h0 : PH} {T : List Int32} {α : AK} {Q : Option Value → PH → Prop} {e : Int32} {p : Nat} (k : FE D h0 T α Q e p) (e7 : α.1 3 7 = 0) (he : ¬ e = 0) : ∀ h', Fa D h0 h' → RA D h' T (faS α e (nI p)) → Q none h' := by
  intro h' f q
  rw [show faS α e (nI p) = aP (aP α 3 7 e) 3 8 (nI p) from if_pos e7] at q
  exact k h' _ f q ((aP_k (by decide)).trans aP_s) he aP_s ((aP_k (by decide)).trans (aP_k (by decide)))
theorem ki_e {T : List Int32} {s n : Nat} (hn : n < 7) : nI (uC T s) = nI n ↔ uC T s = n := nI_eq (by have := uC_lt T s; omega) (by omega)
set_option maxRecDepth 20000 in
set_option maxHeartbeats 4000000 in
theorem L_fl {X : Nat × (Nat → Int32)} {h : PH} {Q : Option Value → PH → Prop} {T : List Int32} {α : AK} {D : Nat} {s : Nat} {Λ : LbS} (hB : Byt T) (lf : LF D T Λ α) (e6 : α.2.2.2.1 = (uH T s).1) (e7 : α.2.2.2.2.1 = (uH T s).2.1) (hs : uC T s = 4) (q : RA D h T α) : ∀ (m i : Nat), i + m = Λ.2.2.2 → (∀ j, j < Λ.2.2.2 → fI T Λ.2.1 s m i = some j → Q (some (.int (nI j))) h) → (fI T Λ.2.1 s m i = none → Q (some (.int (-1))) h) → WP X mX0_findLabel 0 0 2 [some (.ref 3), some (.int (nI i))] [] h Q := by
  have hn9 := lf.2.2.1
  intro m
  induction m with
  | zero =>
    intro i hi k1 k0
    refine w_iload_n dX0_findLabel_2 rfl rfl ?_
    refine w_aload_n dX0_findLabel_3 rfl rfl ?_
    refine a_gD q dX0_findLabel_4 fX0_21 ?_
    refine a_gP (k := 3) rfl q dX0_findLabel_7 fX0_48 ?_
    refine w_icmp_ge (tgt := 62) dX0_findLabel_10 (by decide) (fun c_10 => ?_) (fun c_10 => absurd c_10 (not_not_intro (by rw [lf.2.1]; exact nI_le (by omega) (by omega))))
    refine w_iconst dX0_findLabel_62 (v := (-1)) (by decide) ?_
    refine w_iret dX0_findLabel_63 (fun _ e => by cases e; rfl) ?_
    exact k0 rfl
  | succ m ih =>
    intro i hi k1 k0
    have li := lf.2.2.2 i (by omega)
    have ls9 := lab_same hB li.2.2.2 hs
    rw [← e6, ← e7, ← li.1, ← li.2.1] at ls9
    have nx9 : sameW T (Λ.2.1 i) s = false → WP X mX0_findLabel 0 0 56 [some (.ref 3), some (.int (nI i))] [] h Q := by
      intro e
      refine w_iinc (v := (nI (i + 1))) dX0_findLabel_56 rfl (nI_1 i) (by decide) ?_
      refine w_goto (tgt := 2) dX0_findLabel_59 (by decide) ?_
      exact ih (i + 1) (by omega) (fun j hj e9 => k1 j hj (by rw [fI, if_neg (by rw [e]; decide)]; exact e9)) (fun e9 => k0 (by rw [fI, if_neg (by rw [e]; decide)]; exact e9))
    refine w_iload_n dX0_findLabel_2 rfl rfl ?_
    refine w_aload_n dX0_findLabel_3 rfl rfl ?_
    refine a_gD q dX0_findLabel_4 fX0_21 ?_
    refine a_gP (k := 3) rfl q dX0_findLabel_7 fX0_48 ?_
    refine w_icmp_ge (tgt := 62) dX0_findLabel_10 (by decide) (fun c_10 => absurd c_10 (by rw [lf.2.1]; exact nI_ge (by omega) (by omega))) (fun c_10 => ?_)
    refine w_iload_n dX0_findLabel_13 rfl rfl ?_
    refine w_sipush dX0_findLabel_14 (v := 200) (by decide) ?_
    refine w_icmp_ge (tgt := 62) dX0_findLabel_17 (by decide) (fun c_17 => absurd c_17 (nI_ge (b := 200) (by omega) (by decide))) (fun c_17 => ?_)
    refine w_aload_n dX0_findLabel_20 rfl rfl ?_
    refine w_gs (b := 4) q.1 dX0_findLabel_21 fX0_9 (by decide) rfl rfl (by decide) ?_
    refine w_iload_n dX0_findLabel_24 rfl rfl ?_
    refine a_ldL (c := 4) (Or.inl rfl) q dX0_findLabel_25 (vp_in_nI (show i < 200 by omega) (by decide)) ?_
    rw [nI_clamp (by omega)]
    refine w_aload_n dX0_findLabel_26 rfl rfl ?_
    refine w_gs (b := 12) q.1 dX0_findLabel_27 fX0_41 (by decide) rfl rfl (by decide) ?_
    refine a_gA q dX0_findLabel_30 fX0_126 ?_
    refine w_lcmp dX0_findLabel_33 ?_
    refine w_if_ne (tgt := 56) dX0_findLabel_34 (by decide) (fun c_34 => ?_) (fun c_34 => ?_)
    · rw [lc_eq] at c_34
      exact nx9 (Bool.eq_false_iff.mpr (fun e => c_34 (ls9.mpr e).1))
    · rw [lc_eq] at c_34
      refine w_aload_n dX0_findLabel_37 rfl rfl ?_
      refine w_gs (b := 5) q.1 dX0_findLabel_38 fX0_15 (by decide) rfl rfl (by decide) ?_
      refine w_iload_n dX0_findLabel_41 rfl rfl ?_
      refine a_ldL (c := 5) (Or.inr rfl) q dX0_findLabel_42 (vp_in_nI (show i < 200 by omega) (by decide)) ?_
      rw [nI_clamp (by omega)]
      refine w_aload_n dX0_findLabel_43 rfl rfl ?_
      refine w_gs (b := 12) q.1 dX0_findLabel_44 fX0_41 (by decide) rfl rfl (by decide) ?_
      refine a_gB q dX0_findLabel_47 fX0_130 ?_
      refine w_lcmp dX0_findLabel_50 ?_
      refine w_if_ne (tgt := 56) dX0_findLabel_51 (by decide) (fun c_51 => ?_) (fun c_51 => ?_)
      · rw [lc_eq] at c_51
        exact nx9 (Bool.eq_false_iff.mpr (fun e => c_51 (ls9.mpr e).2))
      · rw [lc_eq] at c_51
        refine w_iload_n dX0_findLabel_54 rfl rfl ?_
        refine w_iret dX0_findLabel_55 (fun _ e => by cases e; rfl) ?_
        exact k1 i (by omega) (by rw [fI, if_pos (ls9.mp ⟨c_34, c_51⟩)])

set_option maxRecDepth 20000 in
set_option maxHeartbeats 4000000 in
/-- findLabel() -/
theorem T_fl {X : Nat × (Nat → Int32)} {h : PH} {Q : Option Value → PH → Prop} {T : List Int32} {α : AK} {D : Nat} {s : Nat} (t : TK T s α.2.2) {Λ : LbS} (hB : Byt T) (lf : LF D T Λ α) (hs : uC T s = 4) (q : RA D h T α) (k1 : ∀ j, j < Λ.2.2.2 → fI T Λ.2.1 s Λ.2.2.2 0 = some j → Q (some (.int (nI j))) h) (k0 : fI T Λ.2.1 s Λ.2.2.2 0 = none → Q (some (.int (-1))) h) : WP X mX0_findLabel 0 0 0 (en 2 [.ref 3]) [] h Q := by
  refine w_iconst dX0_findLabel_0 (v := 0) (by decide) ?_
  refine w_istore_n dX0_findLabel_1 rfl (by decide) ?_
  exact L_fl hB lf (t.2.2.2.2.2 hs).1 (t.2.2.2.2.2 hs).2 hs q Λ.2.2.2 0 (by omega) k1 k0

set_option maxRecDepth 20000 in
set_option maxHeartbeats 4000000 in
/-- placeOfLabel() -/
theorem T_pl {X : Nat × (Nat → Int32)} {h0 h : PH} {Q : Option Value → PH → Prop} {T : List Int32} {α : AK} {D : Nat} {s : Nat} (t : TK T s α.2.2) {Λ : LbS} (hB : Byt T) (lf : LF D T Λ α) (hs : uC T s = 4) (f : Fa D h0 h) (q : RA D h T α) (k1 : ∀ p, plS T Λ s = some p → Q (some (.int (nI p))) h) (k0 : plS T Λ s = none → ∀ h', Fa D h0 h' → RA D h' T (faS α 5 (nI s)) → Q (some (.int 0)) h') : WP X mX0_placeOfLabel 1 22 0 (en 2 [.ref 3]) [] h Q := by
  refine w_aload_n dX0_placeOfLabel_0 rfl rfl ?_
  refine a_g3 (k := 9) rfl q dX0_placeOfLabel_1 fX0_51 ?_
  refine w_if_eq (tgt := 14) dX0_placeOfLabel_4 (by decide) (fun c_4 => ?_) (fun c_4 => ?_)
  · rw [lf.1] at c_4
    refine w_iconst dX0_placeOfLabel_14 (v := (-1)) (by decide) ?_
    refine w_istore_n dX0_placeOfLabel_15 rfl (by decide) ?_
    refine w_iload_n dX0_placeOfLabel_16 rfl rfl ?_
    refine w_if_lt (tgt := 37) dX0_placeOfLabel_17 (by decide) (fun c_17 => ?_) (fun c_17 => absurd c_17 (by decide))
    refine w_aload_n dX0_placeOfLabel_37 rfl rfl ?_
    refine a_g3 (k := 9) rfl q dX0_placeOfLabel_38 fX0_51 ?_
    refine w_if_eq (tgt := 56) dX0_placeOfLabel_41 (by decide) (fun c_41 => ?_) (fun c_41 => absurd c_41 (not_not_intro (by rw [lf.1]; exact c_4)))
    refine w_iconst dX0_placeOfLabel_56 (v := 0) (by decide) ?_
    refine w_iret dX0_placeOfLabel_57 (fun _ e => by cases e; rfl) ?_
    exact k1 0 (by unfold plS; rw [if_neg (by rw [bf_0 c_4]; decide)])
  · rw [lf.1] at c_4
    refine w_aload_n dX0_placeOfLabel_7 rfl rfl ?_
    refine w_v0 (d2 := 0) (L2 := 0) dX0_placeOfLabel_8 vX0_122 rfl (q.1.lt (by decide)) (by decide) (Nat.le_of_ble_eq_true rfl) (by decide) (by decide) ?_
    have s1 : Λ.1 = true := bf_1 c_4
    have hn9 := lf.2.2.1
    refine T_fl t hB lf hs q (fun j hj e => ?_) (fun e => ?_)
    · refine k_i rfl ?_
      refine w_goto (tgt := 15) dX0_placeOfLabel_11 (by decide) ?_
      refine w_istore_n dX0_placeOfLabel_15 rfl (by decide) ?_
      refine w_iload_n dX0_placeOfLabel_16 rfl rfl ?_
      refine w_if_lt (tgt := 37) dX0_placeOfLabel_17 (by decide) (fun c_17 => absurd c_17 (nI_pos (by omega))) (fun c_17 => ?_)
      refine w_iload_n dX0_placeOfLabel_20 rfl rfl ?_
      refine w_sipush dX0_placeOfLabel_21 (v := 200) (by decide) ?_
      refine w_icmp_ge (tgt := 37) dX0_placeOfLabel_24 (by decide) (fun c_24 => absurd c_24 (nI_ge (b := 200) (by omega) (by decide))) (fun c_24 => ?_)
      refine w_aload_n dX0_placeOfLabel_27 rfl rfl ?_
      refine a_gD q dX0_placeOfLabel_28 fX0_21 ?_
      refine a_gG q dX0_placeOfLabel_31 fX0_133 ?_
      refine w_iload_n dX0_placeOfLabel_34 rfl rfl ?_
      refine a_ldP q dX0_placeOfLabel_35 (vp_in_nI (show j < 200 by omega) (by decide)) ?_
      rw [nI_clamp (by omega), (lf.2.2.2 j hj).2.2.1]
      refine w_iret dX0_placeOfLabel_36 (fun _ e => by cases e; rfl) ?_
      exact k1 _ (by unfold plS; rw [if_pos s1, e]; rfl)
    · refine k_i rfl ?_
      refine w_goto (tgt := 15) dX0_placeOfLabel_11 (by decide) ?_
      refine w_istore_n dX0_placeOfLabel_15 rfl (by decide) ?_
      refine w_iload_n dX0_placeOfLabel_16 rfl rfl ?_
      refine w_if_lt (tgt := 37) dX0_placeOfLabel_17 (by decide) (fun c_17 => ?_) (fun c_17 => absurd c_17 (by decide))
      refine w_aload_n dX0_placeOfLabel_37 rfl rfl ?_
      refine a_g3 (k := 9) rfl q dX0_placeOfLabel_38 fX0_51 ?_
      refine w_if_eq (tgt := 56) dX0_placeOfLabel_41 (by decide) (fun c_41 => absurd c_41 (by rw [lf.1]; exact c_4)) (fun c_41 => ?_)
      refine w_aload_n dX0_placeOfLabel_44 rfl rfl ?_
      refine w_iconst dX0_placeOfLabel_45 (v := 5) (by decide) ?_
      refine w_aload_n dX0_placeOfLabel_46 rfl rfl ?_
      refine w_gs (b := 12) q.1 dX0_placeOfLabel_47 fX0_41 (by decide) rfl rfl (by decide) ?_
      refine a_gk (k := 3) (by decide) q dX0_placeOfLabel_50 fX0_119 ?_
      refine w_v2 (d2 := 0) (L2 := 0) dX0_placeOfLabel_53 vX0_97 rfl (q.1.lt (by decide)) rfl rfl (by decide) (Nat.le_of_ble_eq_true rfl) (by decide) (by decide) ?_
      rw [t.2.2.1]
      refine T_fail f q (fun hz fz qz => ?_)
      refine k_v rfl ?_
      refine w_iconst dX0_placeOfLabel_56 (v := 0) (by decide) ?_
      refine w_iret dX0_placeOfLabel_57 (fun _ e => by cases e; rfl) ?_
      exact k0 (by unfold plS; rw [if_pos s1, e]; rfl) _ fz qz

set_option maxRecDepth 20000 in
set_option maxHeartbeats 4000000 in
/-- takeRegister() -/
theorem T_treg {X : Nat × (Nat → Int32)} {h0 h : PH} {Q : Option Value → PH → Prop} {T : List Int32} {α : AK} {D : Nat} {s : Nat} (t : TK T s α.2.2) {v : Int32} (e7 : α.1 3 7 = 0) (f : Fa D h0 h) (q : RA D h T α) (kE : ∀ e, reS T s v (α.1 3 12) = .inl e → FE D h0 T α Q e s) (kO : ∀ w, reS T s v (α.1 3 12) = .inr w → ∀ h', Fa D h0 h' → RA D h' T (aP α 3 12 w) → Q none h') : WP X mX0_takeRegister 1 22 0 (en 2 [.ref 3, .int v]) [] h Q := by
  refine w_aload_n dX0_takeRegister_0 rfl rfl ?_
  refine w_gs (b := 12) q.1 dX0_takeRegister_1 fX0_41 (by decide) rfl rfl (by decide) ?_
  refine a_gk (k := 2) (by decide) q dX0_takeRegister_4 fX0_104 ?_
  refine w_iconst dX0_takeRegister_7 (v := 3) (by decide) ?_
  refine w_icmp_eq (tgt := 26) dX0_takeRegister_8 (by decide) (fun c_8 => ?_) (fun c_8 => ?_)
  · rw [t.2.1, show (3 : Int32) = nI 3 from rfl, ki_e (by decide)] at c_8
    refine w_aload_n dX0_takeRegister_26 rfl rfl ?_
    refine w_dup dX0_takeRegister_27 rfl ?_
    refine a_g3 (k := 12) rfl q dX0_takeRegister_28 fX0_150 ?_
    refine w_aload_n dX0_takeRegister_31 rfl rfl ?_
    refine w_gs (b := 12) q.1 dX0_takeRegister_32 fX0_41 (by decide) rfl rfl (by decide) ?_
    refine a_gk (k := 4) (by decide) q dX0_takeRegister_35 fX0_198 ?_
    refine w_iload_n dX0_takeRegister_38 rfl rfl ?_
    refine w_ishl dX0_takeRegister_39 ?_
    refine w_ior dX0_takeRegister_40 ?_
    refine a_p3 (k := 12) rfl f q dX0_takeRegister_41 fX0_150 (fun h1 f1 q1 => ?_)
    refine w_vret dX0_takeRegister_44 ?_
    rw [t.2.2.2.1 (Or.inr (Or.inl c_8))] at q1
    exact kO _ (by unfold reS; rw [if_pos c_8]) _ f1 q1
  · rw [t.2.1, show (3 : Int32) = nI 3 from rfl, ki_e (by decide)] at c_8
    refine w_aload_n dX0_takeRegister_11 rfl rfl ?_
    refine w_iconst dX0_takeRegister_12 (v := 1) (by decide) ?_
    refine w_aload_n dX0_takeRegister_13 rfl rfl ?_
    refine w_gs (b := 12) q.1 dX0_takeRegister_14 fX0_41 (by decide) rfl rfl (by decide) ?_
    refine a_gk (k := 3) (by decide) q dX0_takeRegister_17 fX0_119 ?_
    refine w_v2 (d2 := 0) (L2 := 0) dX0_takeRegister_20 vX0_97 rfl (q.1.lt (by decide)) rfl rfl (by decide) (Nat.le_of_ble_eq_true rfl) (by decide) (by decide) ?_
    rw [t.2.2.1]
    refine T_fail f q (fun hz fz qz => ?_)
    refine k_v rfl ?_
    refine w_goto (tgt := 44) dX0_takeRegister_23 (by decide) ?_
    refine w_vret dX0_takeRegister_44 ?_
    exact fe1 (kE 1 (by unfold reS; rw [if_neg c_8])) e7 (by decide) _ fz qz

set_option maxRecDepth 20000 in
set_option maxHeartbeats 4000000 in
/-- takeNumber() -/
theorem T_tnum {X : Nat × (Nat → Int32)} {h0 h : PH} {Q : Option Value → PH → Prop} {T : List Int32} {α : AK} {D : Nat} {s : Nat} (t : TK T s α.2.2) {lo hi mk : Int32} (e7 : α.1 3 7 = 0) (f : Fa D h0 h) (q : RA D h T α) (kE : ∀ e, nuS T s lo hi mk (α.1 3 12) = .inl e → FE D h0 T α Q e s) (kO : ∀ w, nuS T s lo hi mk (α.1 3 12) = .inr w → ∀ h', Fa D h0 h' → RA D h' T (aP α 3 12 w) → Q none h') : WP X mX0_takeNumber 1 22 0 (en 4 [.ref 3, .int lo, .int hi, .int mk]) [] h Q := by
  refine w_aload_n dX0_takeNumber_0 rfl rfl ?_
  refine w_gs (b := 12) q.1 dX0_takeNumber_1 fX0_41 (by decide) rfl rfl (by decide) ?_
  refine a_gk (k := 2) (by decide) q dX0_takeNumber_4 fX0_104 ?_
  refine w_iconst dX0_takeNumber_7 (v := 2) (by decide) ?_
  refine w_icmp_eq (tgt := 26) dX0_takeNumber_8 (by decide) (fun c_8 => ?_) (fun c_8 => ?_)
  · rw [t.2.1, show (2 : Int32) = nI 2 from rfl, ki_e (by decide)] at c_8
    refine w_aload_n dX0_takeNumber_26 rfl rfl ?_
    refine w_gs (b := 12) q.1 dX0_takeNumber_27 fX0_41 (by decide) rfl rfl (by decide) ?_
    refine a_gk (k := 4) (by decide) q dX0_takeNumber_30 fX0_198 ?_
    refine w_iload_n dX0_takeNumber_33 rfl rfl ?_
    refine w_icmp_lt (tgt := 48) dX0_takeNumber_34 (by decide) (fun c_34 => ?_) (fun c_34 => ?_)
    · rw [t.2.2.2.1 (Or.inl c_8)] at c_34
      refine w_aload_n dX0_takeNumber_48 rfl rfl ?_
      refine w_iconst dX0_takeNumber_49 (v := 2) (by decide) ?_
      refine w_aload_n dX0_takeNumber_50 rfl rfl ?_
      refine w_gs (b := 12) q.1 dX0_takeNumber_51 fX0_41 (by decide) rfl rfl (by decide) ?_
      refine a_gk (k := 3) (by decide) q dX0_takeNumber_54 fX0_119 ?_
      refine w_v2 (d2 := 0) (L2 := 0) dX0_takeNumber_57 vX0_97 rfl (q.1.lt (by decide)) rfl rfl (by decide) (Nat.le_of_ble_eq_true rfl) (by decide) (by decide) ?_
      rw [t.2.2.1]
      refine T_fail f q (fun hz fz qz => ?_)
      refine k_v rfl ?_
      refine w_goto (tgt := 81) dX0_takeNumber_60 (by decide) ?_
      refine w_vret dX0_takeNumber_81 ?_
      exact fe1 (kE 2 (by unfold nuS; rw [if_pos c_8, if_pos c_34])) e7 (by decide) _ fz qz
    · rw [t.2.2.2.1 (Or.inl c_8)] at c_34
      refine w_aload_n dX0_takeNumber_37 rfl rfl ?_
      refine w_gs (b := 12) q.1 dX0_takeNumber_38 fX0_41 (by decide) rfl rfl (by decide) ?_
      refine a_gk (k := 4) (by decide) q dX0_takeNumber_41 fX0_198 ?_
      refine w_iload_n dX0_takeNumber_44 rfl rfl ?_
      refine w_icmp_le (tgt := 63) dX0_takeNumber_45 (by decide) (fun c_45 => ?_) (fun c_45 => ?_)
      · rw [t.2.2.2.1 (Or.inl c_8)] at c_45
        refine w_aload_n dX0_takeNumber_63 rfl rfl ?_
        refine w_dup dX0_takeNumber_64 rfl ?_
        refine a_g3 (k := 12) rfl q dX0_takeNumber_65 fX0_150 ?_
        refine w_aload_n dX0_takeNumber_68 rfl rfl ?_
        refine w_gs (b := 12) q.1 dX0_takeNumber_69 fX0_41 (by decide) rfl rfl (by decide) ?_
        refine a_gk (k := 4) (by decide) q dX0_takeNumber_72 fX0_198 ?_
        refine w_iload_n dX0_takeNumber_75 rfl rfl ?_
        refine w_iand dX0_takeNumber_76 ?_
        refine w_ior dX0_takeNumber_77 ?_
        refine a_p3 (k := 12) rfl f q dX0_takeNumber_78 fX0_150 (fun h1 f1 q1 => ?_)
        refine w_vret dX0_takeNumber_81 ?_
        rw [t.2.2.2.1 (Or.inl c_8)] at q1
        exact kO _ (by unfold nuS; rw [if_pos c_8, if_neg c_34, if_neg (Int32.not_lt.mpr c_45)]) _ f1 q1
      · rw [t.2.2.2.1 (Or.inl c_8)] at c_45
        refine w_aload_n dX0_takeNumber_48 rfl rfl ?_
        refine w_iconst dX0_takeNumber_49 (v := 2) (by decide) ?_
        refine w_aload_n dX0_takeNumber_50 rfl rfl ?_
        refine w_gs (b := 12) q.1 dX0_takeNumber_51 fX0_41 (by decide) rfl rfl (by decide) ?_
        refine a_gk (k := 3) (by decide) q dX0_takeNumber_54 fX0_119 ?_
        refine w_v2 (d2 := 0) (L2 := 0) dX0_takeNumber_57 vX0_97 rfl (q.1.lt (by decide)) rfl rfl (by decide) (Nat.le_of_ble_eq_true rfl) (by decide) (by decide) ?_
        rw [t.2.2.1]
        refine T_fail f q (fun hz fz qz => ?_)
        refine k_v rfl ?_
        refine w_goto (tgt := 81) dX0_takeNumber_60 (by decide) ?_
        refine w_vret dX0_takeNumber_81 ?_
        exact fe1 (kE 2 (by unfold nuS; rw [if_pos c_8, if_neg c_34, if_pos (Int32.not_le.mp c_45)])) e7 (by decide) _ fz qz
  · rw [t.2.1, show (2 : Int32) = nI 2 from rfl, ki_e (by decide)] at c_8
    refine w_aload_n dX0_takeNumber_11 rfl rfl ?_
    refine w_iconst dX0_takeNumber_12 (v := 1) (by decide) ?_
    refine w_aload_n dX0_takeNumber_13 rfl rfl ?_
    refine w_gs (b := 12) q.1 dX0_takeNumber_14 fX0_41 (by decide) rfl rfl (by decide) ?_
    refine a_gk (k := 3) (by decide) q dX0_takeNumber_17 fX0_119 ?_
    refine w_v2 (d2 := 0) (L2 := 0) dX0_takeNumber_20 vX0_97 rfl (q.1.lt (by decide)) rfl rfl (by decide) (Nat.le_of_ble_eq_true rfl) (by decide) (by decide) ?_
    rw [t.2.2.1]
    refine T_fail f q (fun hz fz qz => ?_)
    refine k_v rfl ?_
    refine w_goto (tgt := 81) dX0_takeNumber_23 (by decide) ?_
    refine w_vret dX0_takeNumber_81 ?_
    exact fe1 (kE 1 (by unfold nuS; rw [if_neg c_8])) e7 (by decide) _ fz qz

theorem FE.p {D : Nat} {h0 : PH} {T : List Int32} {α : AK} {Q : Option Value → PH → Prop} {e : Int32} {p : Nat} {αz : AK} (h : αz.1 3 6 = α.1 3 6) (k : FE D h0 T α Q e p) : FE D h0 T αz Q e p := fun h' α' a b c d g i => k h' α' a b c d g (i.trans h)
theorem aP_aP {α : AK} {c k : Nat} {v w : Int32} : aP (aP α c k v) c k w = aP α c k w := by
  unfold aP
  congr 1
  funext a b
  unfold uP
  by_cases e : a = c
  · by_cases g : b = k
    · simp [e, g]
    · simp [e, g]
  · simp [e]
set_option maxRecDepth 20000 in
set_option maxHeartbeats 4000000 in
/-- takeSecond() -/
theorem T_tsec {X : Nat × (Nat → Int32)} {h0 h : PH} {Q : Option Value → PH → Prop} {T : List Int32} {α : AK} {D : Nat} {s : Nat} (t : TK T s α.2.2) (e7 : α.1 3 7 = 0) (f : Fa D h0 h) (q : RA D h T α) (kE : ∀ e, seS T s (α.1 3 12) = .inl e → FE D h0 T α Q e s) (kO : ∀ w, seS T s (α.1 3 12) = .inr w → ∀ h', Fa D h0 h' → RA D h' T (aP α 3 12 w) → Q none h') : WP X mX0_takeSecond 2 45 0 (en 1 [.ref 3]) [] h Q := by
  refine w_aload_n dX0_takeSecond_0 rfl rfl ?_
  refine w_gs (b := 12) q.1 dX0_takeSecond_1 fX0_41 (by decide) rfl rfl (by decide) ?_
  refine a_gk (k := 2) (by decide) q dX0_takeSecond_4 fX0_104 ?_
  refine w_iconst dX0_takeSecond_7 (v := 3) (by decide) ?_
  refine w_icmp_ne (tgt := 19) dX0_takeSecond_8 (by decide) (fun c_8 => ?_) (fun c_8 => ?_)
  · rw [t.2.1, show (3 : Int32) = nI 3 from rfl, ki_e (by decide)] at c_8
    refine w_aload_n dX0_takeSecond_19 rfl rfl ?_
    refine w_bipush dX0_takeSecond_20 (v := (-16)) (by decide) ?_
    refine w_bipush dX0_takeSecond_22 (v := 15) (by decide) ?_
    refine w_bipush dX0_takeSecond_24 (v := 31) (by decide) ?_
    refine w_v3 (d2 := 1) (L2 := 22) dX0_takeSecond_26 vX0_181 rfl (q.1.lt (by decide)) rfl rfl rfl (by decide) (Nat.le_of_ble_eq_true rfl) (by decide) (by decide) ?_
    refine T_tnum t e7 f q (fun e e9 hz αz fz qz y1 y2 y3 y4 => ?_) (fun w e9 hz fz qz => ?_)
    · refine k_v rfl ?_
      refine w_aload_n dX0_takeSecond_29 rfl rfl ?_
      refine w_dup dX0_takeSecond_30 rfl ?_
      refine a_g3 (k := 12) rfl qz dX0_takeSecond_31 fX0_150 ?_
      refine w_bipush dX0_takeSecond_34 (v := 32) (by decide) ?_
      refine w_ior dX0_takeSecond_36 ?_
      refine a_p3 (k := 12) rfl fz qz dX0_takeSecond_37 fX0_150 (fun h1 f1 q1 => ?_)
      refine w_vret dX0_takeSecond_40 ?_
      exact kE e (by unfold seS; rw [if_neg c_8, e9]) _ _ f1 q1 ((aP_k (by decide)).trans y1) y2 ((aP_k (by decide)).trans y3) ((aP_k (by decide)).trans y4)
    · refine k_v rfl ?_
      refine w_aload_n dX0_takeSecond_29 rfl rfl ?_
      refine w_dup dX0_takeSecond_30 rfl ?_
      refine a_g3 (k := 12) rfl qz dX0_takeSecond_31 fX0_150 ?_
      refine w_bipush dX0_takeSecond_34 (v := 32) (by decide) ?_
      refine w_ior dX0_takeSecond_36 ?_
      refine a_p3 (k := 12) rfl fz qz dX0_takeSecond_37 fX0_150 (fun h2 f2 q2 => ?_)
      refine w_vret dX0_takeSecond_40 ?_
      rw [aP_aP, show (aP α 3 12 w).1 3 12 = w from aP_s] at q2
      exact kO _ (by unfold seS; rw [if_neg c_8, e9]) _ f2 q2
  · rw [t.2.1, show (3 : Int32) = nI 3 from rfl, ki_e (by decide)] at c_8
    refine w_aload_n dX0_takeSecond_11 rfl rfl ?_
    refine w_iconst dX0_takeSecond_12 (v := 0) (by decide) ?_
    refine w_v1 (d2 := 1) (L2 := 22) dX0_takeSecond_13 vX0_175 rfl (q.1.lt (by decide)) rfl (by decide) (Nat.le_of_ble_eq_true rfl) (by decide) (by decide) ?_
    refine T_treg t e7 f q (fun e e9 hz αz fz qz y1 y2 y3 y4 => ?_) (fun w e9 hz fz qz => ?_)
    · refine k_v rfl ?_
      refine w_goto (tgt := 40) dX0_takeSecond_16 (by decide) ?_
      refine w_vret dX0_takeSecond_40 ?_
      exact kE e (by unfold seS; rw [if_pos c_8]; exact e9) _ _ fz qz y1 y2 y3 y4
    · refine k_v rfl ?_
      refine w_goto (tgt := 40) dX0_takeSecond_16 (by decide) ?_
      refine w_vret dX0_takeSecond_40 ?_
      exact kO w (by unfold seS; rw [if_pos c_8]; exact e9) _ fz qz

set_option maxRecDepth 20000 in
set_option maxHeartbeats 4000000 in
/-- takeValue() -/
theorem T_tval {X : Nat × (Nat → Int32)} {h0 h : PH} {Q : Option Value → PH → Prop} {T : List Int32} {α : AK} {D : Nat} {s : Nat} (t : TK T s α.2.2) {Λ : LbS} (hB : Byt T) (lf : LF D T Λ α) (e7 : α.1 3 7 = 0) (f : Fa D h0 h) (q : RA D h T α) (kE : ∀ e, vaS T Λ s (α.1 3 12) = .inl e → FE D h0 T α Q e s) (kO : ∀ w, vaS T Λ s (α.1 3 12) = .inr w → ∀ h', Fa D h0 h' → RA D h' T (aP α 3 12 w) → Q none h') : WP X mX0_takeValue 2 45 0 (en 1 [.ref 3]) [] h Q := by
  refine w_aload_n dX0_takeValue_0 rfl rfl ?_
  refine w_gs (b := 12) q.1 dX0_takeValue_1 fX0_41 (by decide) rfl rfl (by decide) ?_
  refine a_gk (k := 2) (by decide) q dX0_takeValue_4 fX0_104 ?_
  refine w_iconst dX0_takeValue_7 (v := 4) (by decide) ?_
  refine w_icmp_ne (tgt := 25) dX0_takeValue_8 (by decide) (fun c_8 => ?_) (fun c_8 => ?_)
  · rw [t.2.1, show (4 : Int32) = nI 4 from rfl, ki_e (by decide)] at c_8
    refine w_aload_n dX0_takeValue_25 rfl rfl ?_
    refine w_sipush dX0_takeValue_26 (v := (-32768)) (by decide) ?_
    refine w_ldc dX0_takeValue_29 kX0_197 ?_
    refine w_ldc dX0_takeValue_31 kX0_197 ?_
    refine w_v3 (d2 := 1) (L2 := 22) dX0_takeValue_33 vX0_181 rfl (q.1.lt (by decide)) rfl rfl rfl (by decide) (Nat.le_of_ble_eq_true rfl) (by decide) (by decide) ?_
    refine T_tnum t e7 f q (fun e e9 hz αz fz qz y1 y2 y3 y4 => ?_) (fun w e9 hz fz qz => ?_)
    · refine k_v rfl ?_
      refine w_vret dX0_takeValue_36 ?_
      exact kE e (by unfold vaS; rw [if_neg c_8]; exact e9) _ _ fz qz y1 y2 y3 y4
    · refine k_v rfl ?_
      refine w_vret dX0_takeValue_36 ?_
      exact kO w (by unfold vaS; rw [if_neg c_8]; exact e9) _ fz qz
  · rw [t.2.1, show (4 : Int32) = nI 4 from rfl, ki_e (by decide)] at c_8
    refine w_aload_n dX0_takeValue_11 rfl rfl ?_
    refine w_aload_n dX0_takeValue_12 rfl rfl ?_
    refine w_v0 (d2 := 1) (L2 := 22) dX0_takeValue_13 vX0_201 rfl (q.1.lt (by decide)) (by decide) (Nat.le_of_ble_eq_true rfl) (by decide) (by decide) ?_
    refine T_pl t hB lf c_8 f q (fun p e => ?_) (fun e hz fz qz => ?_)
    · refine k_i rfl ?_
      refine w_ldc dX0_takeValue_16 kX0_197 ?_
      refine w_iand dX0_takeValue_18 ?_
      refine a_p3 (k := 12) rfl f q dX0_takeValue_19 fX0_150 (fun h1 f1 q1 => ?_)
      refine w_goto (tgt := 36) dX0_takeValue_22 (by decide) ?_
      refine w_vret dX0_takeValue_36 ?_
      exact kO _ (by unfold vaS; rw [if_pos c_8, e]) _ f1 q1
    · refine k_i rfl ?_
      refine w_ldc dX0_takeValue_16 kX0_197 ?_
      refine w_iand dX0_takeValue_18 ?_
      refine a_p3 (k := 12) rfl fz qz dX0_takeValue_19 fX0_150 (fun h2 f2 q2 => ?_)
      refine w_goto (tgt := 36) dX0_takeValue_22 (by decide) ?_
      refine w_vret dX0_takeValue_36 ?_
      rw [show faS α 5 (nI s) = aP (aP α 3 7 5) 3 8 (nI s) from if_pos e7] at q2
      exact kE 5 (by unfold vaS; rw [if_pos c_8, e]) _ _ f2 q2 ((aP_k (by decide)).trans ((aP_k (by decide)).trans aP_s)) (by decide) ((aP_k (by decide)).trans aP_s) ((aP_k (by decide)).trans ((aP_k (by decide)).trans (aP_k (by decide))))

theorem fa_fa {α : AK} {e n p x : Int32} (e7 : α.1 3 7 = 0) (he : ¬ e = 0) : faS (faS α e p) n x = faS α e p := by
  have : (faS α e p).1 3 7 = e := by rw [show faS α e p = aP (aP α 3 7 e) 3 8 p from if_pos e7]; exact (aP_k (by decide)).trans aP_s
  exact if_neg (by rw [this]; exact he)
theorem fa_D {α : AK} {D : Nat} {e p : Int32} (e7 : α.1 3 7 = 0) (hD : D ≠ 3) : (faS α e p).1 D 4 + (faS α e p).1 D 2 = α.1 D 4 + α.1 D 2 := by
  rw [show faS α e p = aP (aP α 3 7 e) 3 8 p from if_pos e7]
  show uP (uP α.1 3 7 e) 3 8 p D 4 + uP (uP α.1 3 7 e) 3 8 p D 2 = _
  rw [uP_c hD, uP_c hD, uP_c hD, uP_c hD]
set_option maxRecDepth 20000 in
set_option maxHeartbeats 4000000 in
/-- takeWhere() -/
theorem T_twh9 {X : Nat × (Nat → Int32)} {h0 h : PH} {Q : Option Value → PH → Prop} {T : List Int32} {α : AK} {D : Nat} {s : Nat} (t : TK T s α.2.2) {Λ : LbS} (hB : Byt T) (lf : LF D T Λ α) {here : Nat} (eh : α.1 D 4 + α.1 D 2 = nI here) (e7 : α.1 3 7 = 0) (f : Fa D h0 h) (q : RA D h T α) (kE : ∀ e, whS T Λ here s 256 511 (α.1 3 12) = .inl e → FE D h0 T α Q e s) (kO : ∀ w, whS T Λ here s 256 511 (α.1 3 12) = .inr w → ∀ h', Fa D h0 h' → RA D h' T (aP α 3 12 w) → Q none h') : WP X mX0_takeWhere 2 45 0 (en 5 [.ref 3, .int 9]) [] h Q := by
  have m9 : (2 : Int32) * 256 - 1 = 511 := by decide
  refine w_iconst dX0_takeWhere_0 (v := 1) (by decide) ?_
  refine w_iload_n dX0_takeWhere_1 rfl rfl ?_
  refine w_iconst dX0_takeWhere_2 (v := 1) (by decide) ?_
  refine w_isub dX0_takeWhere_3 ?_
  refine w_ishl dX0_takeWhere_4 ?_
  rw [show (1 : Int32) <<< ((9 - 1 : Int32) &&& 31) = 256 from by decide]
  refine w_istore_n dX0_takeWhere_5 rfl (by decide) ?_
  refine w_aload_n dX0_takeWhere_6 rfl rfl ?_
  refine w_gs (b := 12) q.1 dX0_takeWhere_7 fX0_41 (by decide) rfl rfl (by decide) ?_
  refine a_gk (k := 2) (by decide) q dX0_takeWhere_10 fX0_104 ?_
  refine w_iconst dX0_takeWhere_13 (v := 4) (by decide) ?_
  refine w_icmp_eq (tgt := 32) dX0_takeWhere_14 (by decide) (fun c_14 => ?_) (fun c_14 => ?_)
  · rw [t.2.1, show (4 : Int32) = nI 4 from rfl, ki_e (by decide)] at c_14
    refine w_aload_n dX0_takeWhere_32 rfl rfl ?_
    refine w_v0 (d2 := 1) (L2 := 22) dX0_takeWhere_33 vX0_201 rfl (q.1.lt (by decide)) (by decide) (Nat.le_of_ble_eq_true rfl) (by decide) (by decide) ?_
    refine T_pl t hB lf c_14 f q (fun p e => ?_) (fun e hz fz qz => ?_)
    · refine k_i rfl ?_
      refine w_istore_n dX0_takeWhere_36 rfl (by decide) ?_
      refine w_iload_n dX0_takeWhere_37 rfl rfl ?_
      refine w_aload_n dX0_takeWhere_38 rfl rfl ?_
      refine a_gD q dX0_takeWhere_39 fX0_21 ?_
      refine w_v0 (d2 := 0) (L2 := 0) dX0_takeWhere_42 vX0_137 (D_n q.2.2.1).1 (q.1.lt (D_n q.2.2.1).2.1) (by decide) (Nat.le_of_ble_eq_true rfl) (by decide) (by decide) ?_
      refine T_here q ?_
      rw [eh]
      refine k_i rfl ?_
      refine w_iconst dX0_takeWhere_45 (v := 1) (by decide) ?_
      refine w_iadd dX0_takeWhere_46 ?_
      refine w_isub dX0_takeWhere_47 ?_
      refine w_istore dX0_takeWhere_48 (by decide) ?_
      refine w_aload_n dX0_takeWhere_50 rfl rfl ?_
      refine a_g3 (k := 9) rfl q dX0_takeWhere_51 fX0_51 ?_
      refine w_if_eq (tgt := 83) dX0_takeWhere_54 (by decide) (fun c_54 => ?_) (fun c_54 => ?_)
      · refine w_aload_n dX0_takeWhere_83 rfl rfl ?_
        refine w_dup dX0_takeWhere_84 rfl ?_
        refine a_g3 (k := 12) rfl q dX0_takeWhere_85 fX0_150 ?_
        refine w_iload dX0_takeWhere_88 rfl ?_
        refine w_iconst dX0_takeWhere_90 (v := 2) (by decide) ?_
        refine w_iload_n dX0_takeWhere_91 rfl rfl ?_
        refine w_imul dX0_takeWhere_92 ?_
        refine w_iconst dX0_takeWhere_93 (v := 1) (by decide) ?_
        refine w_isub dX0_takeWhere_94 ?_
        refine w_iand dX0_takeWhere_95 ?_
        refine w_ior dX0_takeWhere_96 ?_
        refine a_p3 (k := 12) rfl f q dX0_takeWhere_97 fX0_150 (fun h1 f1 q1 => ?_)
        refine w_vret dX0_takeWhere_100 ?_
        rw [m9] at q1
        exact kO _ (by unfold whS; rw [if_pos c_14, e]; exact if_neg (fun x => by rw [lf.1, if_pos x.1] at c_54; exact absurd c_54 (by decide))) _ f1 q1
      · refine w_iload dX0_takeWhere_57 rfl ?_
        refine w_iload_n dX0_takeWhere_59 rfl rfl ?_
        refine w_ineg dX0_takeWhere_60 ?_
        refine w_icmp_lt (tgt := 70) dX0_takeWhere_61 (by decide) (fun c_61 => ?_) (fun c_61 => ?_)
        · refine w_aload_n dX0_takeWhere_70 rfl rfl ?_
          refine w_bipush dX0_takeWhere_71 (v := 6) (by decide) ?_
          refine w_aload_n dX0_takeWhere_73 rfl rfl ?_
          refine w_gs (b := 12) q.1 dX0_takeWhere_74 fX0_41 (by decide) rfl rfl (by decide) ?_
          refine a_gk (k := 3) (by decide) q dX0_takeWhere_77 fX0_119 ?_
          refine w_v2 (d2 := 0) (L2 := 0) dX0_takeWhere_80 vX0_97 rfl (q.1.lt (by decide)) rfl rfl (by decide) (Nat.le_of_ble_eq_true rfl) (by decide) (by decide) ?_
          refine T_fail f q (fun h2 f2 q2 => ?_)
          refine k_v rfl ?_
          refine w_aload_n dX0_takeWhere_83 rfl rfl ?_
          refine w_dup dX0_takeWhere_84 rfl ?_
          refine a_g3 (k := 12) rfl q2 dX0_takeWhere_85 fX0_150 ?_
          refine w_iload dX0_takeWhere_88 rfl ?_
          refine w_iconst dX0_takeWhere_90 (v := 2) (by decide) ?_
          refine w_iload_n dX0_takeWhere_91 rfl rfl ?_
          refine w_imul dX0_takeWhere_92 ?_
          refine w_iconst dX0_takeWhere_93 (v := 1) (by decide) ?_
          refine w_isub dX0_takeWhere_94 ?_
          refine w_iand dX0_takeWhere_95 ?_
          refine w_ior dX0_takeWhere_96 ?_
          refine a_p3 (k := 12) rfl f2 q2 dX0_takeWhere_97 fX0_150 (fun h3 f3 q3 => ?_)
          refine w_vret dX0_takeWhere_100 ?_
          rw [show faS α 6 (α.2.2.1 3) = aP (aP α 3 7 6) 3 8 (α.2.2.1 3) from if_pos e7, t.2.2.1] at q3
          exact kE 6 (by unfold whS; rw [if_pos c_14, e]; exact if_pos ⟨bf_1 (by rw [lf.1] at c_54; exact c_54), Or.inl c_61⟩) _ _ f3 q3 ((aP_k (by decide)).trans ((aP_k (by decide)).trans aP_s)) (by decide) ((aP_k (by decide)).trans aP_s) ((aP_k (by decide)).trans ((aP_k (by decide)).trans (aP_k (by decide))))
        · refine w_iload dX0_takeWhere_64 rfl ?_
          refine w_iload_n dX0_takeWhere_66 rfl rfl ?_
          refine w_icmp_lt (tgt := 83) dX0_takeWhere_67 (by decide) (fun c_67 => ?_) (fun c_67 => ?_)
          · refine w_aload_n dX0_takeWhere_83 rfl rfl ?_
            refine w_dup dX0_takeWhere_84 rfl ?_
            refine a_g3 (k := 12) rfl q dX0_takeWhere_85 fX0_150 ?_
            refine w_iload dX0_takeWhere_88 rfl ?_
            refine w_iconst dX0_takeWhere_90 (v := 2) (by decide) ?_
            refine w_iload_n dX0_takeWhere_91 rfl rfl ?_
            refine w_imul dX0_takeWhere_92 ?_
            refine w_iconst dX0_takeWhere_93 (v := 1) (by decide) ?_
            refine w_isub dX0_takeWhere_94 ?_
            refine w_iand dX0_takeWhere_95 ?_
            refine w_ior dX0_takeWhere_96 ?_
            refine a_p3 (k := 12) rfl f q dX0_takeWhere_97 fX0_150 (fun h4 f4 q4 => ?_)
            refine w_vret dX0_takeWhere_100 ?_
            rw [m9] at q4
            exact kO _ (by unfold whS; rw [if_pos c_14, e]; exact if_neg (fun x => x.2.elim c_61 (fun y => absurd c_67 (Int32.not_lt.mpr y)))) _ f4 q4
          · refine w_aload_n dX0_takeWhere_70 rfl rfl ?_
            refine w_bipush dX0_takeWhere_71 (v := 6) (by decide) ?_
            refine w_aload_n dX0_takeWhere_73 rfl rfl ?_
            refine w_gs (b := 12) q.1 dX0_takeWhere_74 fX0_41 (by decide) rfl rfl (by decide) ?_
            refine a_gk (k := 3) (by decide) q dX0_takeWhere_77 fX0_119 ?_
            refine w_v2 (d2 := 0) (L2 := 0) dX0_takeWhere_80 vX0_97 rfl (q.1.lt (by decide)) rfl rfl (by decide) (Nat.le_of_ble_eq_true rfl) (by decide) (by decide) ?_
            refine T_fail f q (fun h5 f5 q5 => ?_)
            refine k_v rfl ?_
            refine w_aload_n dX0_takeWhere_83 rfl rfl ?_
            refine w_dup dX0_takeWhere_84 rfl ?_
            refine a_g3 (k := 12) rfl q5 dX0_takeWhere_85 fX0_150 ?_
            refine w_iload dX0_takeWhere_88 rfl ?_
            refine w_iconst dX0_takeWhere_90 (v := 2) (by decide) ?_
            refine w_iload_n dX0_takeWhere_91 rfl rfl ?_
            refine w_imul dX0_takeWhere_92 ?_
            refine w_iconst dX0_takeWhere_93 (v := 1) (by decide) ?_
            refine w_isub dX0_takeWhere_94 ?_
            refine w_iand dX0_takeWhere_95 ?_
            refine w_ior dX0_takeWhere_96 ?_
            refine a_p3 (k := 12) rfl f5 q5 dX0_takeWhere_97 fX0_150 (fun h6 f6 q6 => ?_)
            refine w_vret dX0_takeWhere_100 ?_
            rw [show faS α 6 (α.2.2.1 3) = aP (aP α 3 7 6) 3 8 (α.2.2.1 3) from if_pos e7, t.2.2.1] at q6
            exact kE 6 (by unfold whS; rw [if_pos c_14, e]; exact if_pos ⟨bf_1 (by rw [lf.1] at c_54; exact c_54), Or.inr (Int32.not_lt.mp c_67)⟩) _ _ f6 q6 ((aP_k (by decide)).trans ((aP_k (by decide)).trans aP_s)) (by decide) ((aP_k (by decide)).trans aP_s) ((aP_k (by decide)).trans ((aP_k (by decide)).trans (aP_k (by decide))))
    · refine k_i rfl ?_
      refine w_istore_n dX0_takeWhere_36 rfl (by decide) ?_
      refine w_iload_n dX0_takeWhere_37 rfl rfl ?_
      refine w_aload_n dX0_takeWhere_38 rfl rfl ?_
      refine a_gD qz dX0_takeWhere_39 fX0_21 ?_
      refine w_v0 (d2 := 0) (L2 := 0) dX0_takeWhere_42 vX0_137 (D_n qz.2.2.1).1 (qz.1.lt (D_n qz.2.2.1).2.1) (by decide) (Nat.le_of_ble_eq_true rfl) (by decide) (by decide) ?_
      refine T_here qz ?_
      rw [show (faS α 5 (nI s)).1 D 4 + (faS α 5 (nI s)).1 D 2 = α.1 D 4 + α.1 D 2 from fa_D e7 (D_n q.2.2.1).2.2.2.2.2.2.2.2.2.1, eh]
      refine k_i rfl ?_
      refine w_iconst dX0_takeWhere_45 (v := 1) (by decide) ?_
      refine w_iadd dX0_takeWhere_46 ?_
      refine w_isub dX0_takeWhere_47 ?_
      refine w_istore dX0_takeWhere_48 (by decide) ?_
      refine w_aload_n dX0_takeWhere_50 rfl rfl ?_
      refine a_g3 (k := 9) rfl qz dX0_takeWhere_51 fX0_51 ?_
      refine w_if_eq (tgt := 83) dX0_takeWhere_54 (by decide) (fun c_54 => ?_) (fun c_54 => ?_)
      · refine w_aload_n dX0_takeWhere_83 rfl rfl ?_
        refine w_dup dX0_takeWhere_84 rfl ?_
        refine a_g3 (k := 12) rfl qz dX0_takeWhere_85 fX0_150 ?_
        refine w_iload dX0_takeWhere_88 rfl ?_
        refine w_iconst dX0_takeWhere_90 (v := 2) (by decide) ?_
        refine w_iload_n dX0_takeWhere_91 rfl rfl ?_
        refine w_imul dX0_takeWhere_92 ?_
        refine w_iconst dX0_takeWhere_93 (v := 1) (by decide) ?_
        refine w_isub dX0_takeWhere_94 ?_
        refine w_iand dX0_takeWhere_95 ?_
        refine w_ior dX0_takeWhere_96 ?_
        refine a_p3 (k := 12) rfl fz qz dX0_takeWhere_97 fX0_150 (fun h7 f7 q7 => ?_)
        refine w_vret dX0_takeWhere_100 ?_
        rw [show faS α 5 (nI s) = aP (aP α 3 7 5) 3 8 (nI s) from if_pos e7] at q7
        exact kE 5 (by unfold whS; rw [if_pos c_14, e]) _ _ f7 q7 ((aP_k (by decide)).trans ((aP_k (by decide)).trans aP_s)) (by decide) ((aP_k (by decide)).trans aP_s) ((aP_k (by decide)).trans ((aP_k (by decide)).trans (aP_k (by decide))))
      · refine w_iload dX0_takeWhere_57 rfl ?_
        refine w_iload_n dX0_takeWhere_59 rfl rfl ?_
        refine w_ineg dX0_takeWhere_60 ?_
        refine w_icmp_lt (tgt := 70) dX0_takeWhere_61 (by decide) (fun c_61 => ?_) (fun c_61 => ?_)
        · refine w_aload_n dX0_takeWhere_70 rfl rfl ?_
          refine w_bipush dX0_takeWhere_71 (v := 6) (by decide) ?_
          refine w_aload_n dX0_takeWhere_73 rfl rfl ?_
          refine w_gs (b := 12) qz.1 dX0_takeWhere_74 fX0_41 (by decide) rfl rfl (by decide) ?_
          refine a_gk (k := 3) (by decide) qz dX0_takeWhere_77 fX0_119 ?_
          refine w_v2 (d2 := 0) (L2 := 0) dX0_takeWhere_80 vX0_97 rfl (qz.1.lt (by decide)) rfl rfl (by decide) (Nat.le_of_ble_eq_true rfl) (by decide) (by decide) ?_
          refine T_fail fz qz (fun h8 f8 q8 => ?_)
          refine k_v rfl ?_
          refine w_aload_n dX0_takeWhere_83 rfl rfl ?_
          refine w_dup dX0_takeWhere_84 rfl ?_
          refine a_g3 (k := 12) rfl q8 dX0_takeWhere_85 fX0_150 ?_
          refine w_iload dX0_takeWhere_88 rfl ?_
          refine w_iconst dX0_takeWhere_90 (v := 2) (by decide) ?_
          refine w_iload_n dX0_takeWhere_91 rfl rfl ?_
          refine w_imul dX0_takeWhere_92 ?_
          refine w_iconst dX0_takeWhere_93 (v := 1) (by decide) ?_
          refine w_isub dX0_takeWhere_94 ?_
          refine w_iand dX0_takeWhere_95 ?_
          refine w_ior dX0_takeWhere_96 ?_
          refine a_p3 (k := 12) rfl f8 q8 dX0_takeWhere_97 fX0_150 (fun h9 f9 q9 => ?_)
          refine w_vret dX0_takeWhere_100 ?_
          rw [fa_fa e7 (by decide)] at q9
          rw [show faS α 5 (nI s) = aP (aP α 3 7 5) 3 8 (nI s) from if_pos e7] at q9
          exact kE 5 (by unfold whS; rw [if_pos c_14, e]) _ _ f9 q9 ((aP_k (by decide)).trans ((aP_k (by decide)).trans aP_s)) (by decide) ((aP_k (by decide)).trans aP_s) ((aP_k (by decide)).trans ((aP_k (by decide)).trans (aP_k (by decide))))
        · refine w_iload dX0_takeWhere_64 rfl ?_
          refine w_iload_n dX0_takeWhere_66 rfl rfl ?_
          refine w_icmp_lt (tgt := 83) dX0_takeWhere_67 (by decide) (fun c_67 => ?_) (fun c_67 => ?_)
          · refine w_aload_n dX0_takeWhere_83 rfl rfl ?_
            refine w_dup dX0_takeWhere_84 rfl ?_
            refine a_g3 (k := 12) rfl qz dX0_takeWhere_85 fX0_150 ?_
            refine w_iload dX0_takeWhere_88 rfl ?_
            refine w_iconst dX0_takeWhere_90 (v := 2) (by decide) ?_
            refine w_iload_n dX0_takeWhere_91 rfl rfl ?_
            refine w_imul dX0_takeWhere_92 ?_
            refine w_iconst dX0_takeWhere_93 (v := 1) (by decide) ?_
            refine w_isub dX0_takeWhere_94 ?_
            refine w_iand dX0_takeWhere_95 ?_
            refine w_ior dX0_takeWhere_96 ?_
            refine a_p3 (k := 12) rfl fz qz dX0_takeWhere_97 fX0_150 (fun h10 f10 q10 => ?_)
            refine w_vret dX0_takeWhere_100 ?_
            rw [show faS α 5 (nI s) = aP (aP α 3 7 5) 3 8 (nI s) from if_pos e7] at q10
            exact kE 5 (by unfold whS; rw [if_pos c_14, e]) _ _ f10 q10 ((aP_k (by decide)).trans ((aP_k (by decide)).trans aP_s)) (by decide) ((aP_k (by decide)).trans aP_s) ((aP_k (by decide)).trans ((aP_k (by decide)).trans (aP_k (by decide))))
          · refine w_aload_n dX0_takeWhere_70 rfl rfl ?_
            refine w_bipush dX0_takeWhere_71 (v := 6) (by decide) ?_
            refine w_aload_n dX0_takeWhere_73 rfl rfl ?_
            refine w_gs (b := 12) qz.1 dX0_takeWhere_74 fX0_41 (by decide) rfl rfl (by decide) ?_
            refine a_gk (k := 3) (by decide) qz dX0_takeWhere_77 fX0_119 ?_
            refine w_v2 (d2 := 0) (L2 := 0) dX0_takeWhere_80 vX0_97 rfl (qz.1.lt (by decide)) rfl rfl (by decide) (Nat.le_of_ble_eq_true rfl) (by decide) (by decide) ?_
            refine T_fail fz qz (fun h11 f11 q11 => ?_)
            refine k_v rfl ?_
            refine w_aload_n dX0_takeWhere_83 rfl rfl ?_
            refine w_dup dX0_takeWhere_84 rfl ?_
            refine a_g3 (k := 12) rfl q11 dX0_takeWhere_85 fX0_150 ?_
            refine w_iload dX0_takeWhere_88 rfl ?_
            refine w_iconst dX0_takeWhere_90 (v := 2) (by decide) ?_
            refine w_iload_n dX0_takeWhere_91 rfl rfl ?_
            refine w_imul dX0_takeWhere_92 ?_
            refine w_iconst dX0_takeWhere_93 (v := 1) (by decide) ?_
            refine w_isub dX0_takeWhere_94 ?_
            refine w_iand dX0_takeWhere_95 ?_
            refine w_ior dX0_takeWhere_96 ?_
            refine a_p3 (k := 12) rfl f11 q11 dX0_takeWhere_97 fX0_150 (fun h12 f12 q12 => ?_)
            refine w_vret dX0_takeWhere_100 ?_
            rw [fa_fa e7 (by decide)] at q12
            rw [show faS α 5 (nI s) = aP (aP α 3 7 5) 3 8 (nI s) from if_pos e7] at q12
            exact kE 5 (by unfold whS; rw [if_pos c_14, e]) _ _ f12 q12 ((aP_k (by decide)).trans ((aP_k (by decide)).trans aP_s)) (by decide) ((aP_k (by decide)).trans aP_s) ((aP_k (by decide)).trans ((aP_k (by decide)).trans (aP_k (by decide))))
  · rw [t.2.1, show (4 : Int32) = nI 4 from rfl, ki_e (by decide)] at c_14
    refine w_aload_n dX0_takeWhere_17 rfl rfl ?_
    refine w_iload_n dX0_takeWhere_18 rfl rfl ?_
    refine w_ineg dX0_takeWhere_19 ?_
    refine w_iload_n dX0_takeWhere_20 rfl rfl ?_
    refine w_iconst dX0_takeWhere_21 (v := 1) (by decide) ?_
    refine w_isub dX0_takeWhere_22 ?_
    refine w_iconst dX0_takeWhere_23 (v := 2) (by decide) ?_
    refine w_iload_n dX0_takeWhere_24 rfl rfl ?_
    refine w_imul dX0_takeWhere_25 ?_
    refine w_iconst dX0_takeWhere_26 (v := 1) (by decide) ?_
    refine w_isub dX0_takeWhere_27 ?_
    refine w_v3 (d2 := 1) (L2 := 22) dX0_takeWhere_28 vX0_181 rfl (q.1.lt (by decide)) rfl rfl rfl (by decide) (Nat.le_of_ble_eq_true rfl) (by decide) (by decide) ?_
    refine T_tnum t e7 f q (fun e e9 hz αz fz qz y1 y2 y3 y4 => ?_) (fun w e9 hz fz qz => ?_)
    · refine k_v rfl ?_
      refine w_vret dX0_takeWhere_31 ?_
      rw [m9] at e9
      exact kE e (by unfold whS; rw [if_neg c_14]; exact e9) _ _ fz qz y1 y2 y3 y4
    · refine k_v rfl ?_
      refine w_vret dX0_takeWhere_31 ?_
      rw [m9] at e9
      exact kO w (by unfold whS; rw [if_neg c_14]; exact e9) _ fz qz

set_option maxRecDepth 20000 in
set_option maxHeartbeats 4000000 in
/-- takeWhere() -/
theorem T_twh11 {X : Nat × (Nat → Int32)} {h0 h : PH} {Q : Option Value → PH → Prop} {T : List Int32} {α : AK} {D : Nat} {s : Nat} (t : TK T s α.2.2) {Λ : LbS} (hB : Byt T) (lf : LF D T Λ α) {here : Nat} (eh : α.1 D 4 + α.1 D 2 = nI here) (e7 : α.1 3 7 = 0) (f : Fa D h0 h) (q : RA D h T α) (kE : ∀ e, whS T Λ here s 1024 2047 (α.1 3 12) = .inl e → FE D h0 T α Q e s) (kO : ∀ w, whS T Λ here s 1024 2047 (α.1 3 12) = .inr w → ∀ h', Fa D h0 h' → RA D h' T (aP α 3 12 w) → Q none h') : WP X mX0_takeWhere 2 45 0 (en 5 [.ref 3, .int 11]) [] h Q := by
  have m9 : (2 : Int32) * 1024 - 1 = 2047 := by decide
  refine w_iconst dX0_takeWhere_0 (v := 1) (by decide) ?_
  refine w_iload_n dX0_takeWhere_1 rfl rfl ?_
  refine w_iconst dX0_takeWhere_2 (v := 1) (by decide) ?_
  refine w_isub dX0_takeWhere_3 ?_
  refine w_ishl dX0_takeWhere_4 ?_
  rw [show (1 : Int32) <<< ((11 - 1 : Int32) &&& 31) = 1024 from by decide]
  refine w_istore_n dX0_takeWhere_5 rfl (by decide) ?_
  refine w_aload_n dX0_takeWhere_6 rfl rfl ?_
  refine w_gs (b := 12) q.1 dX0_takeWhere_7 fX0_41 (by decide) rfl rfl (by decide) ?_
  refine a_gk (k := 2) (by decide) q dX0_takeWhere_10 fX0_104 ?_
  refine w_iconst dX0_takeWhere_13 (v := 4) (by decide) ?_
  refine w_icmp_eq (tgt := 32) dX0_takeWhere_14 (by decide) (fun c_14 => ?_) (fun c_14 => ?_)
  · rw [t.2.1, show (4 : Int32) = nI 4 from rfl, ki_e (by decide)] at c_14
    refine w_aload_n dX0_takeWhere_32 rfl rfl ?_
    refine w_v0 (d2 := 1) (L2 := 22) dX0_takeWhere_33 vX0_201 rfl (q.1.lt (by decide)) (by decide) (Nat.le_of_ble_eq_true rfl) (by decide) (by decide) ?_
    refine T_pl t hB lf c_14 f q (fun p e => ?_) (fun e hz fz qz => ?_)
    · refine k_i rfl ?_
      refine w_istore_n dX0_takeWhere_36 rfl (by decide) ?_
      refine w_iload_n dX0_takeWhere_37 rfl rfl ?_
      refine w_aload_n dX0_takeWhere_38 rfl rfl ?_
      refine a_gD q dX0_takeWhere_39 fX0_21 ?_
      refine w_v0 (d2 := 0) (L2 := 0) dX0_takeWhere_42 vX0_137 (D_n q.2.2.1).1 (q.1.lt (D_n q.2.2.1).2.1) (by decide) (Nat.le_of_ble_eq_true rfl) (by decide) (by decide) ?_
      refine T_here q ?_
      rw [eh]
      refine k_i rfl ?_
      refine w_iconst dX0_takeWhere_45 (v := 1) (by decide) ?_
      refine w_iadd dX0_takeWhere_46 ?_
      refine w_isub dX0_takeWhere_47 ?_
      refine w_istore dX0_takeWhere_48 (by decide) ?_
      refine w_aload_n dX0_takeWhere_50 rfl rfl ?_
      refine a_g3 (k := 9) rfl q dX0_takeWhere_51 fX0_51 ?_
      refine w_if_eq (tgt := 83) dX0_takeWhere_54 (by decide) (fun c_54 => ?_) (fun c_54 => ?_)
      · refine w_aload_n dX0_takeWhere_83 rfl rfl ?_
        refine w_dup dX0_takeWhere_84 rfl ?_
        refine a_g3 (k := 12) rfl q dX0_takeWhere_85 fX0_150 ?_
        refine w_iload dX0_takeWhere_88 rfl ?_
        refine w_iconst dX0_takeWhere_90 (v := 2) (by decide) ?_
        refine w_iload_n dX0_takeWhere_91 rfl rfl ?_
        refine w_imul dX0_takeWhere_92 ?_
        refine w_iconst dX0_takeWhere_93 (v := 1) (by decide) ?_
        refine w_isub dX0_takeWhere_94 ?_
        refine w_iand dX0_takeWhere_95 ?_
        refine w_ior dX0_takeWhere_96 ?_
        refine a_p3 (k := 12) rfl f q dX0_takeWhere_97 fX0_150 (fun h1 f1 q1 => ?_)
        refine w_vret dX0_takeWhere_100 ?_
        rw [m9] at q1
        exact kO _ (by unfold whS; rw [if_pos c_14, e]; exact if_neg (fun x => by rw [lf.1, if_pos x.1] at c_54; exact absurd c_54 (by decide))) _ f1 q1
      · refine w_iload dX0_takeWhere_57 rfl ?_
        refine w_iload_n dX0_takeWhere_59 rfl rfl ?_
        refine w_ineg dX0_takeWhere_60 ?_
        refine w_icmp_lt (tgt := 70) dX0_takeWhere_61 (by decide) (fun c_61 => ?_) (fun c_61 => ?_)
        · refine w_aload_n dX0_takeWhere_70 rfl rfl ?_
          refine w_bipush dX0_takeWhere_71 (v := 6) (by decide) ?_
          refine w_aload_n dX0_takeWhere_73 rfl rfl ?_
          refine w_gs (b := 12) q.1 dX0_takeWhere_74 fX0_41 (by decide) rfl rfl (by decide) ?_
          refine a_gk (k := 3) (by decide) q dX0_takeWhere_77 fX0_119 ?_
          refine w_v2 (d2 := 0) (L2 := 0) dX0_takeWhere_80 vX0_97 rfl (q.1.lt (by decide)) rfl rfl (by decide) (Nat.le_of_ble_eq_true rfl) (by decide) (by decide) ?_
          refine T_fail f q (fun h2 f2 q2 => ?_)
          refine k_v rfl ?_
          refine w_aload_n dX0_takeWhere_83 rfl rfl ?_
          refine w_dup dX0_takeWhere_84 rfl ?_
          refine a_g3 (k := 12) rfl q2 dX0_takeWhere_85 fX0_150 ?_
          refine w_iload dX0_takeWhere_88 rfl ?_
          refine w_iconst dX0_takeWhere_90 (v := 2) (by decide) ?_
          refine w_iload_n dX0_takeWhere_91 rfl rfl ?_
          refine w_imul dX0_takeWhere_92 ?_
          refine w_iconst dX0_takeWhere_93 (v := 1) (by decide) ?_
          refine w_isub dX0_takeWhere_94 ?_
          refine w_iand dX0_takeWhere_95 ?_
          refine w_ior dX0_takeWhere_96 ?_
          refine a_p3 (k := 12) rfl f2 q2 dX0_takeWhere_97 fX0_150 (fun h3 f3 q3 => ?_)
          refine w_vret dX0_takeWhere_100 ?_
          rw [show faS α 6 (α.2.2.1 3) = aP (aP α 3 7 6) 3 8 (α.2.2.1 3) from if_pos e7, t.2.2.1] at q3
          exact kE 6 (by unfold whS; rw [if_pos c_14, e]; exact if_pos ⟨bf_1 (by rw [lf.1] at c_54; exact c_54), Or.inl c_61⟩) _ _ f3 q3 ((aP_k (by decide)).trans ((aP_k (by decide)).trans aP_s)) (by decide) ((aP_k (by decide)).trans aP_s) ((aP_k (by decide)).trans ((aP_k (by decide)).trans (aP_k (by decide))))
        · refine w_iload dX0_takeWhere_64 rfl ?_
          refine w_iload_n dX0_takeWhere_66 rfl rfl ?_
          refine w_icmp_lt (tgt := 83) dX0_takeWhere_67 (by decide) (fun c_67 => ?_) (fun c_67 => ?_)
          · refine w_aload_n dX0_takeWhere_83 rfl rfl ?_
            refine w_dup dX0_takeWhere_84 rfl ?_
            refine a_g3 (k := 12) rfl q dX0_takeWhere_85 fX0_150 ?_
            refine w_iload dX0_takeWhere_88 rfl ?_
            refine w_iconst dX0_takeWhere_90 (v := 2) (by decide) ?_
            refine w_iload_n dX0_takeWhere_91 rfl rfl ?_
            refine w_imul dX0_takeWhere_92 ?_
            refine w_iconst dX0_takeWhere_93 (v := 1) (by decide) ?_
            refine w_isub dX0_takeWhere_94 ?_
            refine w_iand dX0_takeWhere_95 ?_
            refine w_ior dX0_takeWhere_96 ?_
            refine a_p3 (k := 12) rfl f q dX0_takeWhere_97 fX0_150 (fun h4 f4 q4 => ?_)
            refine w_vret dX0_takeWhere_100 ?_
            rw [m9] at q4
            exact kO _ (by unfold whS; rw [if_pos c_14, e]; exact if_neg (fun x => x.2.elim c_61 (fun y => absurd c_67 (Int32.not_lt.mpr y)))) _ f4 q4
          · refine w_aload_n dX0_takeWhere_70 rfl rfl ?_
            refine w_bipush dX0_takeWhere_71 (v := 6) (by decide) ?_
            refine w_aload_n dX0_takeWhere_73 rfl rfl ?_
            refine w_gs (b := 12) q.1 dX0_takeWhere_74 fX0_41 (by decide) rfl rfl (by decide) ?_
            refine a_gk (k := 3) (by decide) q dX0_takeWhere_77 fX0_119 ?_
            refine w_v2 (d2 := 0) (L2 := 0) dX0_takeWhere_80 vX0_97 rfl (q.1.lt (by decide)) rfl rfl (by decide) (Nat.le_of_ble_eq_true rfl) (by decide) (by decide) ?_
            refine T_fail f q (fun h5 f5 q5 => ?_)
            refine k_v rfl ?_
            refine w_aload_n dX0_takeWhere_83 rfl rfl ?_
            refine w_dup dX0_takeWhere_84 rfl ?_
            refine a_g3 (k := 12) rfl q5 dX0_takeWhere_85 fX0_150 ?_
            refine w_iload dX0_takeWhere_88 rfl ?_
            refine w_iconst dX0_takeWhere_90 (v := 2) (by decide) ?_
            refine w_iload_n dX0_takeWhere_91 rfl rfl ?_
            refine w_imul dX0_takeWhere_92 ?_
            refine w_iconst dX0_takeWhere_93 (v := 1) (by decide) ?_
            refine w_isub dX0_takeWhere_94 ?_
            refine w_iand dX0_takeWhere_95 ?_
            refine w_ior dX0_takeWhere_96 ?_
            refine a_p3 (k := 12) rfl f5 q5 dX0_takeWhere_97 fX0_150 (fun h6 f6 q6 => ?_)
            refine w_vret dX0_takeWhere_100 ?_
            rw [show faS α 6 (α.2.2.1 3) = aP (aP α 3 7 6) 3 8 (α.2.2.1 3) from if_pos e7, t.2.2.1] at q6
            exact kE 6 (by unfold whS; rw [if_pos c_14, e]; exact if_pos ⟨bf_1 (by rw [lf.1] at c_54; exact c_54), Or.inr (Int32.not_lt.mp c_67)⟩) _ _ f6 q6 ((aP_k (by decide)).trans ((aP_k (by decide)).trans aP_s)) (by decide) ((aP_k (by decide)).trans aP_s) ((aP_k (by decide)).trans ((aP_k (by decide)).trans (aP_k (by decide))))
    · refine k_i rfl ?_
      refine w_istore_n dX0_takeWhere_36 rfl (by decide) ?_
      refine w_iload_n dX0_takeWhere_37 rfl rfl ?_
      refine w_aload_n dX0_takeWhere_38 rfl rfl ?_
      refine a_gD qz dX0_takeWhere_39 fX0_21 ?_
      refine w_v0 (d2 := 0) (L2 := 0) dX0_takeWhere_42 vX0_137 (D_n qz.2.2.1).1 (qz.1.lt (D_n qz.2.2.1).2.1) (by decide) (Nat.le_of_ble_eq_true rfl) (by decide) (by decide) ?_
      refine T_here qz ?_
      rw [show (faS α 5 (nI s)).1 D 4 + (faS α 5 (nI s)).1 D 2 = α.1 D 4 + α.1 D 2 from fa_D e7 (D_n q.2.2.1).2.2.2.2.2.2.2.2.2.1, eh]
      refine k_i rfl ?_
      refine w_iconst dX0_takeWhere_45 (v := 1) (by decide) ?_
      refine w_iadd dX0_takeWhere_46 ?_
      refine w_isub dX0_takeWhere_47 ?_
      refine w_istore dX0_takeWhere_48 (by decide) ?_
      refine w_aload_n dX0_takeWhere_50 rfl rfl ?_
      refine a_g3 (k := 9) rfl qz dX0_takeWhere_51 fX0_51 ?_
      refine w_if_eq (tgt := 83) dX0_takeWhere_54 (by decide) (fun c_54 => ?_) (fun c_54 => ?_)
      · refine w_aload_n dX0_takeWhere_83 rfl rfl ?_
        refine w_dup dX0_takeWhere_84 rfl ?_
        refine a_g3 (k := 12) rfl qz dX0_takeWhere_85 fX0_150 ?_
        refine w_iload dX0_takeWhere_88 rfl ?_
        refine w_iconst dX0_takeWhere_90 (v := 2) (by decide) ?_
        refine w_iload_n dX0_takeWhere_91 rfl rfl ?_
        refine w_imul dX0_takeWhere_92 ?_
        refine w_iconst dX0_takeWhere_93 (v := 1) (by decide) ?_
        refine w_isub dX0_takeWhere_94 ?_
        refine w_iand dX0_takeWhere_95 ?_
        refine w_ior dX0_takeWhere_96 ?_
        refine a_p3 (k := 12) rfl fz qz dX0_takeWhere_97 fX0_150 (fun h7 f7 q7 => ?_)
        refine w_vret dX0_takeWhere_100 ?_
        rw [show faS α 5 (nI s) = aP (aP α 3 7 5) 3 8 (nI s) from if_pos e7] at q7
        exact kE 5 (by unfold whS; rw [if_pos c_14, e]) _ _ f7 q7 ((aP_k (by decide)).trans ((aP_k (by decide)).trans aP_s)) (by decide) ((aP_k (by decide)).trans aP_s) ((aP_k (by decide)).trans ((aP_k (by decide)).trans (aP_k (by decide))))
      · refine w_iload dX0_takeWhere_57 rfl ?_
        refine w_iload_n dX0_takeWhere_59 rfl rfl ?_
        refine w_ineg dX0_takeWhere_60 ?_
        refine w_icmp_lt (tgt := 70) dX0_takeWhere_61 (by decide) (fun c_61 => ?_) (fun c_61 => ?_)
        · refine w_aload_n dX0_takeWhere_70 rfl rfl ?_
          refine w_bipush dX0_takeWhere_71 (v := 6) (by decide) ?_
          refine w_aload_n dX0_takeWhere_73 rfl rfl ?_
          refine w_gs (b := 12) qz.1 dX0_takeWhere_74 fX0_41 (by decide) rfl rfl (by decide) ?_
          refine a_gk (k := 3) (by decide) qz dX0_takeWhere_77 fX0_119 ?_
          refine w_v2 (d2 := 0) (L2 := 0) dX0_takeWhere_80 vX0_97 rfl (qz.1.lt (by decide)) rfl rfl (by decide) (Nat.le_of_ble_eq_true rfl) (by decide) (by decide) ?_
          refine T_fail fz qz (fun h8 f8 q8 => ?_)
          refine k_v rfl ?_
          refine w_aload_n dX0_takeWhere_83 rfl rfl ?_
          refine w_dup dX0_takeWhere_84 rfl ?_
          refine a_g3 (k := 12) rfl q8 dX0_takeWhere_85 fX0_150 ?_
          refine w_iload dX0_takeWhere_88 rfl ?_
          refine w_iconst dX0_takeWhere_90 (v := 2) (by decide) ?_
          refine w_iload_n dX0_takeWhere_91 rfl rfl ?_
          refine w_imul dX0_takeWhere_92 ?_
          refine w_iconst dX0_takeWhere_93 (v := 1) (by decide) ?_
          refine w_isub dX0_takeWhere_94 ?_
          refine w_iand dX0_takeWhere_95 ?_
          refine w_ior dX0_takeWhere_96 ?_
          refine a_p3 (k := 12) rfl f8 q8 dX0_takeWhere_97 fX0_150 (fun h9 f9 q9 => ?_)
          refine w_vret dX0_takeWhere_100 ?_
          rw [fa_fa e7 (by decide)] at q9
          rw [show faS α 5 (nI s) = aP (aP α 3 7 5) 3 8 (nI s) from if_pos e7] at q9
          exact kE 5 (by unfold whS; rw [if_pos c_14, e]) _ _ f9 q9 ((aP_k (by decide)).trans ((aP_k (by decide)).trans aP_s)) (by decide) ((aP_k (by decide)).trans aP_s) ((aP_k (by decide)).trans ((aP_k (by decide)).trans (aP_k (by decide))))
        · refine w_iload dX0_takeWhere_64 rfl ?_
          refine w_iload_n dX0_takeWhere_66 rfl rfl ?_
          refine w_icmp_lt (tgt := 83) dX0_takeWhere_67 (by decide) (fun c_67 => ?_) (fun c_67 => ?_)
          · refine w_aload_n dX0_takeWhere_83 rfl rfl ?_
            refine w_dup dX0_takeWhere_84 rfl ?_
            refine a_g3 (k := 12) rfl qz dX0_takeWhere_85 fX0_150 ?_
            refine w_iload dX0_takeWhere_88 rfl ?_
            refine w_iconst dX0_takeWhere_90 (v := 2) (by decide) ?_
            refine w_iload_n dX0_takeWhere_91 rfl rfl ?_
            refine w_imul dX0_takeWhere_92 ?_
            refine w_iconst dX0_takeWhere_93 (v := 1) (by decide) ?_
            refine w_isub dX0_takeWhere_94 ?_
            refine w_iand dX0_takeWhere_95 ?_
            refine w_ior dX0_takeWhere_96 ?_
            refine a_p3 (k := 12) rfl fz qz dX0_takeWhere_97 fX0_150 (fun h10 f10 q10 => ?_)
            refine w_vret dX0_takeWhere_100 ?_
            rw [show faS α 5 (nI s) = aP (aP α 3 7 5) 3 8 (nI s) from if_pos e7] at q10
            exact kE 5 (by unfold whS; rw [if_pos c_14, e]) _ _ f10 q10 ((aP_k (by decide)).trans ((aP_k (by decide)).trans aP_s)) (by decide) ((aP_k (by decide)).trans aP_s) ((aP_k (by decide)).trans ((aP_k (by decide)).trans (aP_k (by decide))))
          · refine w_aload_n dX0_takeWhere_70 rfl rfl ?_
            refine w_bipush dX0_takeWhere_71 (v := 6) (by decide) ?_
            refine w_aload_n dX0_takeWhere_73 rfl rfl ?_
            refine w_gs (b := 12) qz.1 dX0_takeWhere_74 fX0_41 (by decide) rfl rfl (by decide) ?_
            refine a_gk (k := 3) (by decide) qz dX0_takeWhere_77 fX0_119 ?_
            refine w_v2 (d2 := 0) (L2 := 0) dX0_takeWhere_80 vX0_97 rfl (qz.1.lt (by decide)) rfl rfl (by decide) (Nat.le_of_ble_eq_true rfl) (by decide) (by decide) ?_
            refine T_fail fz qz (fun h11 f11 q11 => ?_)
            refine k_v rfl ?_
            refine w_aload_n dX0_takeWhere_83 rfl rfl ?_
            refine w_dup dX0_takeWhere_84 rfl ?_
            refine a_g3 (k := 12) rfl q11 dX0_takeWhere_85 fX0_150 ?_
            refine w_iload dX0_takeWhere_88 rfl ?_
            refine w_iconst dX0_takeWhere_90 (v := 2) (by decide) ?_
            refine w_iload_n dX0_takeWhere_91 rfl rfl ?_
            refine w_imul dX0_takeWhere_92 ?_
            refine w_iconst dX0_takeWhere_93 (v := 1) (by decide) ?_
            refine w_isub dX0_takeWhere_94 ?_
            refine w_iand dX0_takeWhere_95 ?_
            refine w_ior dX0_takeWhere_96 ?_
            refine a_p3 (k := 12) rfl f11 q11 dX0_takeWhere_97 fX0_150 (fun h12 f12 q12 => ?_)
            refine w_vret dX0_takeWhere_100 ?_
            rw [fa_fa e7 (by decide)] at q12
            rw [show faS α 5 (nI s) = aP (aP α 3 7 5) 3 8 (nI s) from if_pos e7] at q12
            exact kE 5 (by unfold whS; rw [if_pos c_14, e]) _ _ f12 q12 ((aP_k (by decide)).trans ((aP_k (by decide)).trans aP_s)) (by decide) ((aP_k (by decide)).trans aP_s) ((aP_k (by decide)).trans ((aP_k (by decide)).trans (aP_k (by decide))))
  · rw [t.2.1, show (4 : Int32) = nI 4 from rfl, ki_e (by decide)] at c_14
    refine w_aload_n dX0_takeWhere_17 rfl rfl ?_
    refine w_iload_n dX0_takeWhere_18 rfl rfl ?_
    refine w_ineg dX0_takeWhere_19 ?_
    refine w_iload_n dX0_takeWhere_20 rfl rfl ?_
    refine w_iconst dX0_takeWhere_21 (v := 1) (by decide) ?_
    refine w_isub dX0_takeWhere_22 ?_
    refine w_iconst dX0_takeWhere_23 (v := 2) (by decide) ?_
    refine w_iload_n dX0_takeWhere_24 rfl rfl ?_
    refine w_imul dX0_takeWhere_25 ?_
    refine w_iconst dX0_takeWhere_26 (v := 1) (by decide) ?_
    refine w_isub dX0_takeWhere_27 ?_
    refine w_v3 (d2 := 1) (L2 := 22) dX0_takeWhere_28 vX0_181 rfl (q.1.lt (by decide)) rfl rfl rfl (by decide) (Nat.le_of_ble_eq_true rfl) (by decide) (by decide) ?_
    refine T_tnum t e7 f q (fun e e9 hz αz fz qz y1 y2 y3 y4 => ?_) (fun w e9 hz fz qz => ?_)
    · refine k_v rfl ?_
      refine w_vret dX0_takeWhere_31 ?_
      rw [m9] at e9
      exact kE e (by unfold whS; rw [if_neg c_14]; exact e9) _ _ fz qz y1 y2 y3 y4
    · refine k_v rfl ?_
      refine w_vret dX0_takeWhere_31 ?_
      rw [m9] at e9
      exact kO w (by unfold whS; rw [if_neg c_14]; exact e9) _ fz qz

