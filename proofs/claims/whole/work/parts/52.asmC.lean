/-! THE CLASS's ASSEMBLER: LABELS and LINES -/
theorem k_r {X : Nat × (Nat → Int32)} {M M2 : MR} {d L pc a : Nat} {ls : List (Option Value)} {st : List Value} {h : PH} {Q : Option Value → PH → Prop} {C : String} (e : M2.2.2.2.1 = some (.object C)) (kk : WP X M d L pc ls (.ref a :: st) h Q) : rok M2 (some (.ref a)) ∧ WP X M d L pc ls ((some (Value.ref a)).toList ++ st) h Q := ⟨Or.inr (Or.inr ⟨some a, _, rfl, e, Or.inl ⟨C, rfl⟩⟩), kk⟩
theorem k_rN {X : Nat × (Nat → Int32)} {M M2 : MR} {d L pc : Nat} {ls : List (Option Value)} {st : List Value} {h : PH} {Q : Option Value → PH → Prop} {C : String} (e : M2.2.2.2.1 = some (.object C)) (kk : WP X M d L pc ls (.null :: st) h Q) : rok M2 (some .null) ∧ WP X M d L pc ls ((some Value.null).toList ++ st) h Q := ⟨Or.inr (Or.inr ⟨none, _, rfl, e, Or.inl ⟨C, rfl⟩⟩), kk⟩
def FEk (D : Nat) (h0 : PH) (T : List Int32) (α : AK) (Q : Option Value → PH → Prop) (e : Int32) (p : Nat) : Prop := ∀ h' α', Fa D h0 h' → RA D h' T α' → α'.1 3 7 = e → ¬ e = 0 → α'.1 3 8 = nI p → α'.1 3 6 = α.1 3 6 → α'.2.2 = α.2.2 → Q none h'
theorem fe2 {D : Nat} {h0 : PH} {T : List Int32} {α : AK} {Q : Option Value → PH → Prop} {e : Int32} {p : Nat} (k : FEk D h0 T α Q e p) (e7 : α.1 3 7 = 0) (he : ¬ e = 0) : ∀ h', Fa D h0 h' → RA D h' T (faS α e (nI p)) → Q none h' := by
  intro h' f q
  rw [show faS α e (nI p) = aP (aP α 3 7 e) 3 8 (nI p) from if_pos e7] at q
  exact k h' _ f q ((aP_k (by decide)).trans aP_s) he aP_s ((aP_k (by decide)).trans (aP_k (by decide))) rfl
theorem gd_l {α : Type} {l : List α} {x d : α} {i : Nat} (h : i < l.length) : (l ++ [x]).getD i d = l.getD i d := by
  rw [List.getD_eq_getElem?_getD, List.getD_eq_getElem?_getD, List.getElem?_append_left h]
theorem gd_n {α : Type} {l : List α} {x d : α} : (l ++ [x]).getD l.length d = x := by
  rw [List.getD_eq_getElem?_getD, List.getElem?_append_right (Nat.le_refl _), Nat.sub_self]; rfl
def lbP (α : AK) (D n : Nat) (x y : Int64) (p : Int32) : AK := aP (aP (aPl (aPl α 4 n x) 5 n y) (D + 2) n p) D 3 (nI (n + 1))
theorem AR.lab {D : Nat} {T : List Int32} {sec : Bool} {a : AS} {s : Nat} {α : AK} (hD : D = 6 ∨ D = 9) (h : AR D T sec a α) (hs : uC T s = 4) (hn : a.2.2.2.2.2.length < 200) : AR D T sec (a.1, a.2.1, a.2.2.1, a.2.2.2.1, a.2.2.2.2.1, a.2.2.2.2.2 ++ [(s, a.2.2.2.1 + a.2.2.2.2.1.length)]) (lbP α D a.2.2.2.2.2.length (uH T s).1 (uH T s).2.1 (nI (a.2.2.2.1 + a.2.2.2.2.1.length))) := by
  obtain ⟨a1, a2, a3, a4, a5, a6, a7, a8⟩ := h
  have dn := D_n hD
  have n3 : (3 : Nat) ≠ D := Ne.symm dn.2.2.2.2.2.2.2.2.2.1
  have g := dn.2.2.2.2.2.2.2.2.2.2.2.2.2
  have n32 : (3 : Nat) ≠ D + 2 := by omega
  have l1 : (a.2.2.2.2.2 ++ [(s, a.2.2.2.1 + a.2.2.2.2.1.length)]).length = a.2.2.2.2.2.length + 1 := by rw [List.length_append]; rfl
  refine ⟨(aP_c n3).trans ((aP_c n32).trans a1), (aP_c n3).trans ((aP_c n32).trans a2), ⟨(aP_c n3).trans ((aP_c n32).trans a3.1), (aP_c n3).trans ((aP_c n32).trans a3.2)⟩, ⟨(aP_k (by decide)).trans ((aP_c (by omega)).trans a4.1), a4.2⟩, ⟨(aP_k (by decide)).trans ((aP_c (by omega)).trans a5.1), a5.2⟩, fun i v hv => (aP_c (by omega)).trans ((aP_c (by omega)).trans (a6 i v hv)), ?_, a8⟩
  obtain ⟨b1, b2, b3, b4⟩ := a7
  refine ⟨(aP_c n3).trans ((aP_c n32).trans b1), ?_, ?_, fun i hi => ?_⟩
  · show _ = nI (a.2.2.2.2.2 ++ [(s, a.2.2.2.1 + a.2.2.2.2.1.length)]).length
    rw [l1]; exact aP_s
  · show (a.2.2.2.2.2 ++ [(s, a.2.2.2.1 + a.2.2.2.2.1.length)]).length ≤ 200
    omega
  · change i < (a.2.2.2.2.2 ++ [(s, a.2.2.2.1 + a.2.2.2.2.1.length)]).length at hi
    show uPl (uPl α.2.1 4 a.2.2.2.2.2.length (uH T s).1) 5 a.2.2.2.2.2.length (uH T s).2.1 4 i = (uH T ((a.2.2.2.2.2 ++ [(s, a.2.2.2.1 + a.2.2.2.2.1.length)]).getD i (0, 0)).1).1 ∧ uPl (uPl α.2.1 4 a.2.2.2.2.2.length (uH T s).1) 5 a.2.2.2.2.2.length (uH T s).2.1 5 i = (uH T ((a.2.2.2.2.2 ++ [(s, a.2.2.2.1 + a.2.2.2.2.1.length)]).getD i (0, 0)).1).2.1 ∧ (aP (aP (aPl (aPl α 4 a.2.2.2.2.2.length (uH T s).1) 5 a.2.2.2.2.2.length (uH T s).2.1) (D + 2) a.2.2.2.2.2.length (nI (a.2.2.2.1 + a.2.2.2.2.1.length))) D 3 (nI (a.2.2.2.2.2.length + 1))).1 (D + 2) i = nI ((a.2.2.2.2.2 ++ [(s, a.2.2.2.1 + a.2.2.2.2.1.length)]).getD i (0, 0)).2 ∧ uC T ((a.2.2.2.2.2 ++ [(s, a.2.2.2.1 + a.2.2.2.2.1.length)]).getD i (0, 0)).1 = 4
    rw [aP_c (by omega)]
    by_cases c : i = a.2.2.2.2.2.length
    · subst c
      rw [gd_n]
      refine ⟨?_, ?_, aP_s, hs⟩
      · unfold uPl; simp
      · unfold uPl; simp
    · have hi2 : i < a.2.2.2.2.2.length := by omega
      rw [gd_l hi2, aP_k c]
      have b := b4 i hi2
      refine ⟨?_, ?_, b.2.2.1, b.2.2.2⟩
      · unfold uPl; simp [c]; exact b.1
      · unfold uPl; simp [c]; exact b.2.1
theorem nI_m1 {j : Nat} (h : j < 2 ^ 31) : ¬ nI j = -1 := fun e => absurd (congrArg Int32.toInt e) (by rw [nI_toInt h]; show ¬ (j : Int) = -1; omega)
set_option maxRecDepth 20000 in
set_option maxHeartbeats 4000000 in
/-- tellLabel() -/
theorem T_tell {X : Nat × (Nat → Int32)} {h0 h : PH} {Q : Option Value → PH → Prop} {T : List Int32} {α : AK} {D : Nat} {s : Nat} (hB : Byt T) (hs : uC T s = 4) (hs2 : s ≤ T.length) (t : TK T s α.2.2) {sec : Bool} {a : AS} (ar : AR D T sec a α) (f : Fa D h0 h) (q : RA D h T α) (kE : ∀ e, teS T sec s a = .inl e → FEk D h0 T α Q e.1 e.2) (kO : ∀ b, teS T sec s a = .inr b → GO D h0 T α Q sec b) : WP X mX0_tellLabel 1 22 0 (en 2 [.ref 3]) [] h Q := by
  refine w_aload_n dX0_tellLabel_0 rfl rfl ?_
  refine a_g3 (k := 9) rfl q dX0_tellLabel_1 fX0_51 ?_
  refine w_if_eq (tgt := 8) dX0_tellLabel_4 (by decide) (fun c_4 => ?_) (fun c_4 => ?_)
  · rw [ar.2.2.2.2.2.2.1.1] at c_4
    have sf : sec = false := bf_0 c_4
    have lf := ar.2.2.2.2.2.2.1
    have hl9 : (laS sec a.2.2.2.2.2).2.2.2 = a.2.2.2.2.2.length := rfl
    have t1 : ¬ sec = true := by rw [sf]; decide
    refine w_aload_n dX0_tellLabel_8 rfl rfl ?_
    refine a_gD q dX0_tellLabel_9 fX0_21 ?_
    refine a_gP (k := 3) rfl q dX0_tellLabel_12 fX0_48 ?_
    refine w_istore_n dX0_tellLabel_15 rfl (by decide) ?_
    rw [lf.2.1, hl9]
    refine w_aload_n dX0_tellLabel_16 rfl rfl ?_
    refine w_v0 (d2 := 0) (L2 := 0) dX0_tellLabel_17 vX0_122 rfl (q.1.lt (by decide)) (by decide) (Nat.le_of_ble_eq_true rfl) (by decide) (by decide) ?_
    refine T_fl t hB lf hs q (fun j hj e => ?_) (fun e => ?_)
    · refine k_i rfl ?_
      refine w_iconst dX0_tellLabel_20 (v := (-1)) (by decide) ?_
      refine w_icmp_eq (tgt := 39) dX0_tellLabel_21 (by decide) (fun c_21 => absurd c_21 (by rw [hl9] at hj; have := lf.2.2.1; rw [hl9] at this; exact nI_m1 (by omega))) (fun c_21 => ?_)
      refine w_aload_n dX0_tellLabel_24 rfl rfl ?_
      refine w_iconst dX0_tellLabel_25 (v := 3) (by decide) ?_
      refine w_aload_n dX0_tellLabel_26 rfl rfl ?_
      refine w_gs (b := 12) q.1 dX0_tellLabel_27 fX0_41 (by decide) rfl rfl (by decide) ?_
      refine a_gk (k := 3) (by decide) q dX0_tellLabel_30 fX0_119 ?_
      refine w_v2 (d2 := 0) (L2 := 0) dX0_tellLabel_33 vX0_97 rfl (q.1.lt (by decide)) rfl rfl (by decide) (Nat.le_of_ble_eq_true rfl) (by decide) (by decide) ?_
      rw [t.2.2.1]
      refine T_fail f q (fun hz fz qz => ?_)
      refine k_v rfl ?_
      refine w_goto (tgt := 113) dX0_tellLabel_36 (by decide) ?_
      refine w_vret dX0_tellLabel_113 ?_
      exact fe2 (kE (3, s) (by unfold teS; rw [if_neg t1, if_pos (by rw [← hl9, e]; rfl)])) ar.1 (show ¬ (3 : Int32) = 0 from by decide) _ fz qz
    · refine k_i rfl ?_
      refine w_iconst dX0_tellLabel_20 (v := (-1)) (by decide) ?_
      refine w_icmp_eq (tgt := 39) dX0_tellLabel_21 (by decide) (fun c_21 => ?_) (fun c_21 => absurd c_21 (not_not_intro rfl))
      refine w_iload_n dX0_tellLabel_39 rfl rfl ?_
      refine w_sipush dX0_tellLabel_40 (v := 200) (by decide) ?_
      refine w_icmp_lt (tgt := 61) dX0_tellLabel_43 (by decide) (fun c_43 => ?_) (fun c_43 => ?_)
      · rw [show (200 : Int32) = nI 200 from rfl, nI_ltI (by have := lf.2.2.1; rw [hl9] at this; omega) (by decide)] at c_43
        refine w_aload_n dX0_tellLabel_61 rfl rfl ?_
        refine w_gs (b := 4) q.1 dX0_tellLabel_62 fX0_9 (by decide) rfl rfl (by decide) ?_
        refine w_iload_n dX0_tellLabel_65 rfl rfl ?_
        refine w_aload_n dX0_tellLabel_66 rfl rfl ?_
        refine w_gs (b := 12) q.1 dX0_tellLabel_67 fX0_41 (by decide) rfl rfl (by decide) ?_
        refine a_gA q dX0_tellLabel_70 fX0_126 ?_
        refine a_stL (c := 4) (Or.inl rfl) f q dX0_tellLabel_73 (vp_in_nI (show a.2.2.2.2.2.length < 200 from c_43) (by decide)) (fun h1 f1 q1 => ?_)
        rw [nI_clamp (by omega), (t.2.2.2.2.2 hs).1] at q1
        refine w_aload_n dX0_tellLabel_74 rfl rfl ?_
        refine w_gs (b := 5) q1.1 dX0_tellLabel_75 fX0_15 (by decide) rfl rfl (by decide) ?_
        refine w_iload_n dX0_tellLabel_78 rfl rfl ?_
        refine w_aload_n dX0_tellLabel_79 rfl rfl ?_
        refine w_gs (b := 12) q1.1 dX0_tellLabel_80 fX0_41 (by decide) rfl rfl (by decide) ?_
        refine a_gB q1 dX0_tellLabel_83 fX0_130 ?_
        refine a_stL (c := 5) (Or.inr rfl) f1 q1 dX0_tellLabel_86 (vp_in_nI (show a.2.2.2.2.2.length < 200 from c_43) (by decide)) (fun h2 f2 q2 => ?_)
        rw [nI_clamp (by omega)] at q2
        rw [show (aPl α 4 a.2.2.2.2.2.length (uH T s).1).2.2.2.2.1 = _ from (t.2.2.2.2.2 hs).2] at q2
        refine w_aload_n dX0_tellLabel_87 rfl rfl ?_
        refine a_gD q2 dX0_tellLabel_88 fX0_21 ?_
        refine a_gG q2 dX0_tellLabel_91 fX0_133 ?_
        refine w_iload_n dX0_tellLabel_94 rfl rfl ?_
        refine w_aload_n dX0_tellLabel_95 rfl rfl ?_
        refine a_gD q2 dX0_tellLabel_96 fX0_21 ?_
        refine w_v0 (d2 := 0) (L2 := 0) dX0_tellLabel_99 vX0_137 (D_n q2.2.2.1).1 (q2.1.lt (D_n q2.2.2.1).2.1) (by decide) (Nat.le_of_ble_eq_true rfl) (by decide) (by decide) ?_
        refine T_here q2 ?_
        rw [show (aPl (aPl α 4 a.2.2.2.2.2.length (uH T s).1) 5 a.2.2.2.2.2.length (uH T s).2.1).1 D 4 + (aPl (aPl α 4 a.2.2.2.2.2.length (uH T s).1) 5 a.2.2.2.2.2.length (uH T s).2.1).1 D 2 = nI (a.2.2.2.1 + a.2.2.2.2.1.length) from by show α.1 D 4 + α.1 D 2 = _; rw [ar.2.2.2.1.1, ar.2.2.2.2.1.1, nI_add]]
        refine k_i rfl ?_
        refine a_stP f2 q2 dX0_tellLabel_102 (vp_in_nI (show a.2.2.2.2.2.length < 200 from c_43) (by decide)) (fun h3 f3 q3 => ?_)
        rw [nI_clamp (by omega)] at q3
        refine w_aload_n dX0_tellLabel_103 rfl rfl ?_
        refine a_gD q3 dX0_tellLabel_104 fX0_21 ?_
        refine w_iload_n dX0_tellLabel_107 rfl rfl ?_
        refine w_iconst dX0_tellLabel_108 (v := 1) (by decide) ?_
        refine w_iadd dX0_tellLabel_109 ?_
        refine a_pP (k := 3) rfl f3 q3 dX0_tellLabel_110 fX0_48 (fun h4 f4 q4 => ?_)
        refine w_vret dX0_tellLabel_113 ?_
        rw [nI_1] at q4
        have fn : (fI T (laS sec a.2.2.2.2.2).2.1 s a.2.2.2.2.2.length 0).isSome = false := by rw [← hl9, e]; rfl
        exact kO _ (by unfold teS; rw [if_neg t1, if_neg (by rw [fn]; decide), if_neg (by omega)]) _ _ f4 q4 (AR.p (p := a.1) (ar.lab q.2.2.1 hs c_43) (uE_le hs2)) rfl ((aP_c (Ne.symm (D_n q.2.2.1).2.2.2.2.2.2.2.2.2.1)).trans (aP_c (by have := (D_n q.2.2.1).2.2.2.2.2.2.2.2.2.2.2.2.2; omega)))
      · rw [show (200 : Int32) = nI 200 from rfl, nI_ltI (by have := lf.2.2.1; rw [hl9] at this; omega) (by decide)] at c_43
        refine w_aload_n dX0_tellLabel_46 rfl rfl ?_
        refine w_iconst dX0_tellLabel_47 (v := 4) (by decide) ?_
        refine w_aload_n dX0_tellLabel_48 rfl rfl ?_
        refine w_gs (b := 12) q.1 dX0_tellLabel_49 fX0_41 (by decide) rfl rfl (by decide) ?_
        refine a_gk (k := 3) (by decide) q dX0_tellLabel_52 fX0_119 ?_
        refine w_v2 (d2 := 0) (L2 := 0) dX0_tellLabel_55 vX0_97 rfl (q.1.lt (by decide)) rfl rfl (by decide) (Nat.le_of_ble_eq_true rfl) (by decide) (by decide) ?_
        rw [t.2.2.1]
        refine T_fail f q (fun hz fz qz => ?_)
        refine k_v rfl ?_
        refine w_goto (tgt := 113) dX0_tellLabel_58 (by decide) ?_
        refine w_vret dX0_tellLabel_113 ?_
        have fn : (fI T (laS sec a.2.2.2.2.2).2.1 s a.2.2.2.2.2.length 0).isSome = false := by rw [← hl9, e]; rfl
        exact fe2 (kE (4, s) (by unfold teS; rw [if_neg t1, if_neg (by rw [fn]; decide), if_pos (by omega)])) ar.1 (show ¬ (4 : Int32) = 0 from by decide) _ fz qz
  · rw [ar.2.2.2.2.2.2.1.1] at c_4
    refine w_vret dX0_tellLabel_7 ?_
    exact kO _ (by unfold teS; rw [if_pos (show sec = true from bf_1 c_4)]) _ _ f q (AR.p (p := a.1) ar (uE_le hs2)) rfl rfl

