/-! THE CLASS's ASSEMBLER: statements, the end of a LINE -/
theorem uE_le {T : List Int32} {s : Nat} (h : s ≤ T.length) : uE T s ≤ T.length := by
  unfold uE
  split
  · exact h
  split
  · exact h
  split
  · cases e : txS T (T.length - s) (s + 1) [] with
    | none => exact h
    | some r => exact (tx_ln T _ _ _ r e (by simp)).2
  split
  · exact h
  · exact (wd1_p h).2.1
def GP (D : Nat) (h0 : PH) (T : List Int32) (α : AK) (Q : Option Value → PH → Prop) (sec : Bool) (b : AS) : Prop := ∀ h' α', Fa D h0 h' → RA D h' T α' → AR D T sec b α' → α'.2.2.1 1 = nI b.1 → α'.1 3 6 = α.1 3 6 → Q none h'
theorem AR.be {D : Nat} {T : List Int32} {sec : Bool} {p p' o : Nat} {b v v' : Bool} {made : List Int32} {l9 : List (Nat × Nat)} {α : AK} {y : Int32} (hD : D = 6 ∨ D = 9) (h : AR D T sec (p, b, v, o, made, l9) α) (hy : y = b01 v') (hp : p' ≤ T.length) : AR D T sec (p', true, v', o, made, l9) (aP (aP α 3 10 1) 3 11 y) := by
  obtain ⟨a1, a2, a3, a4, a5, a6, a7, a8⟩ := h
  have dn := D_n hD
  have n3 : D ≠ 3 := dn.2.2.2.2.2.2.2.2.2.1
  have g := dn.2.2.2.2.2.2.2.2.2.2.2.2.2
  subst hy
  refine ⟨(aP_k (by decide)).trans ((aP_k (by decide)).trans a1), (aP_k (by decide)).trans aP_s, ⟨aP_s, (aP_k (by decide)).trans ((aP_k (by decide)).trans a3.2)⟩, ⟨(aP_c n3).trans ((aP_c n3).trans a4.1), a4.2⟩, ⟨(aP_c n3).trans ((aP_c n3).trans a5.1), a5.2⟩, fun i v hv => (aP_c (by omega)).trans ((aP_c (by omega)).trans (a6 i v hv)), ?_, hp⟩
  obtain ⟨b1, b2, b3, b4⟩ := a7
  exact ⟨(aP_k (by decide)).trans ((aP_k (by decide)).trans b1), (aP_c n3).trans ((aP_c n3).trans b2), b3, fun i hi => ⟨(b4 i hi).1, (b4 i hi).2.1, (aP_c (by omega)).trans ((aP_c (by omega)).trans (b4 i hi).2.2.1), (b4 i hi).2.2.2⟩⟩
theorem AR.ps {D : Nat} {T : List Int32} {sec : Bool} {p p' : Nat} {r : Bool × Bool × Nat × List Int32 × List (Nat × Nat)} {α : AK} {κ : KS} (h : AR D T sec (p, r) α) (hp : p' ≤ T.length) : AR D T sec (p', r) (aT α κ) := ⟨h.1, h.2.1, h.2.2.1, h.2.2.2.1, h.2.2.2.2.1, h.2.2.2.2.2.1, h.2.2.2.2.2.2.1, hp⟩
theorem uE_end {T : List Int32} {s : Nat} (h : uC T s = 0) : uE T s = s := by
  by_cases c1 : bT T s = -1
  · exact uE_0 (Or.inl c1)
  by_cases c2 : bT T s = 10
  · exact uE_0 (Or.inr c2)
  unfold uC at h
  rw [if_neg c1, if_neg c2] at h
  split at h
  · split at h <;> omega
  split at h
  · omega
  · exact absurd h (by unfold wk; repeat (first | split | decide))
set_option maxRecDepth 20000 in
set_option maxHeartbeats 4000000 in
theorem L_s8 {X : Nat × (Nat → Int32)} {h0 h : PH} {Q : Option Value → PH → Prop} {T : List Int32} {α : AK} {D : Nat} {sec : Bool} {i p o : Nat} {b v : Bool} {made : List Int32} {l9 : List (Nat × Nat)} {x2 x3 : Option Value} (hi : i < 37) (ar : AR D T sec (p, b, v, o, made, l9) α) (np : α.2.2.1 1 = nI p) (f : Fa D h0 h) (q : RA D h T α) (kE : ∀ e, enS T (p, true, decide (i = 3), o, made, l9) = .inl e → FE D h0 T α Q e.1 e.2) (kO : ∀ b, enS T (p, true, decide (i = 3), o, made, l9) = .inr b → GP D h0 T α Q sec b) : WP X mX0_takeStatement 4 91 112 [some (.ref 3), some (.ref (1000000 + i)), x2, x3] [] h Q := by
  have hp : p ≤ T.length := ar.2.2.2.2.2.2.2
  have hx := nx_p hp
  have fin : ∀ (y : Int32) (hq : PH), y = b01 (decide (i = 3)) → Fa D h0 hq → RA D hq T (aP (aP α 3 10 1) 3 11 y) → WP X mX0_takeStatement 4 91 133 [some (.ref 3), some (.ref (1000000 + i)), x2, x3] [] hq Q := by
    intro y hq hy fy qy
    have ab := ar.be (p' := nx T p) q.2.2.1 hy hx.2
    have y6 : (aP (aP α 3 10 1) 3 11 y).1 3 6 = α.1 3 6 := (aP_k (by decide)).trans (aP_k (by decide))
    refine w_aload_n dX0_takeStatement_133 rfl rfl ?_
    refine w_gs (b := 12) qy.1 dX0_takeStatement_134 fX0_41 (by decide) rfl rfl (by decide) ?_
    refine w_v0 (d2 := 3) (L2 := 70) dX0_takeStatement_137 vX0_101 rfl (qy.1.lt (by decide)) (by decide) (Nat.le_of_ble_eq_true rfl) (by decide) (by decide) ?_
    refine T_adv (p := p) np hp Fk.rf qy.2.1 (fun ha κa ga ra ta => ?_)
    have fa := fy.k ga
    have qa := qy.tok ga ra
    refine k_v rfl ?_
    refine w_aload_n dX0_takeStatement_140 rfl rfl ?_
    refine w_gs (b := 12) qa.1 dX0_takeStatement_141 fX0_41 (by decide) rfl rfl (by decide) ?_
    refine a_gk (k := 2) (by decide) qa dX0_takeStatement_144 fX0_104 ?_
    refine w_if_eq (tgt := 162) dX0_takeStatement_147 (by decide) (fun c_147 => ?_) (fun c_147 => ?_)
    · rw [show (aT (aP (aP α 3 10 1) 3 11 y) κa).2.2.1 2 = _ from ta.2.1, show (0 : Int32) = nI 0 from rfl, ki_e (by decide)] at c_147
      refine w_vret dX0_takeStatement_162 ?_
      refine kO _ (by unfold enS; rw [if_pos c_147]) _ _ fa qa (ab.ps hx.2) ?_ y6
      show κa.1 1 = nI (nx T p)
      rw [ta.1, uE_end c_147]
    · rw [show (aT (aP (aP α 3 10 1) 3 11 y) κa).2.2.1 2 = _ from ta.2.1, show (0 : Int32) = nI 0 from rfl, ki_e (by decide)] at c_147
      refine w_aload_n dX0_takeStatement_150 rfl rfl ?_
      refine w_iconst dX0_takeStatement_151 (v := 1) (by decide) ?_
      refine w_aload_n dX0_takeStatement_152 rfl rfl ?_
      refine w_gs (b := 12) qa.1 dX0_takeStatement_153 fX0_41 (by decide) rfl rfl (by decide) ?_
      refine a_gk (k := 3) (by decide) qa dX0_takeStatement_156 fX0_119 ?_
      refine w_v2 (d2 := 0) (L2 := 0) dX0_takeStatement_159 vX0_97 rfl (qa.1.lt (by decide)) rfl rfl (by decide) (Nat.le_of_ble_eq_true rfl) (by decide) (by decide) ?_
      rw [show (aT (aP (aP α 3 10 1) 3 11 y) κa).2.2.1 3 = _ from ta.2.2.1]
      refine T_fail fa qa (fun hz fz qz => ?_)
      refine k_v rfl ?_
      refine w_vret dX0_takeStatement_162 ?_
      exact fe1 (FE.p (α := α) (αz := aT (aP (aP α 3 10 1) 3 11 y) κa) y6 (kE _ (by unfold enS; rw [if_neg c_147]))) ab.1 (show ¬ (1 : Int32) = 0 from by decide) _ fz qz
  refine w_aload_n dX0_takeStatement_112 rfl rfl ?_
  refine w_iconst dX0_takeStatement_113 (v := 1) (by decide) ?_
  refine a_p3z (k := 10) rfl (by decide) f q dX0_takeStatement_114 fX0_67 (fun h1 f1 q1 => ?_)
  refine w_aload_n dX0_takeStatement_117 rfl rfl ?_
  refine w_aload_n dX0_takeStatement_118 rfl rfl ?_
  refine w_cstat dX0_takeStatement_119 kZ_e9 gX0_172 ?_
  refine w_acmpne (i := i) (j := 3) (tgt := 129) dX0_takeStatement_122 (by decide) hi (by decide) (fun c => ?_) (fun c => ?_)
  · refine w_iconst dX0_takeStatement_129 (v := 0) (by decide) ?_
    refine a_p3z (k := 11) rfl (by decide) f1 q1 dX0_takeStatement_130 fX0_70 (fun hb fb qb => ?_)
    exact fin 0 hb (by unfold b01; rw [decide_eq_false c]; rfl) fb qb
  · refine w_iconst dX0_takeStatement_125 (v := 1) (by decide) ?_
    refine w_goto (tgt := 130) dX0_takeStatement_126 (by decide) ?_
    refine a_p3z (k := 11) rfl (by decide) f1 q1 dX0_takeStatement_130 fX0_70 (fun hb fb qb => ?_)
    exact fin 1 hb (by unfold b01; rw [decide_eq_true c]; rfl) fb qb

set_option maxRecDepth 20000 in
set_option maxHeartbeats 4000000 in
theorem L_s9 {X : Nat × (Nat → Int32)} {h0 h : PH} {Q : Option Value → PH → Prop} {T : List Int32} {α : AK} {D : Nat} {sec : Bool} {i p o : Nat} {b v : Bool} {made : List Int32} {l9 : List (Nat × Nat)} {x2 x3 : Option Value} (hi : i < 37) (hi4 : 4 ≤ i) (ar : AR D T sec (p, b, v, o, made, l9) α) (ro : roS o made.length 1 = true) (np : α.2.2.1 1 = nI p) (f : Fa D h0 h) (q : RA D h T α) (kE : ∀ e, enS T (p, true, decide (i = 3), o, made ++ [α.1 3 12 &&& 65535], l9) = .inl e → FE D h0 T α Q e.1 e.2) (kO : ∀ b, enS T (p, true, decide (i = 3), o, made ++ [α.1 3 12 &&& 65535], l9) = .inr b → GP D h0 T α Q sec b) : WP X mX0_takeStatement 4 91 94 [some (.ref 3), some (.ref (1000000 + i)), x2, x3] [] h Q := by
  have dn := D_n q.2.2.1
  have n3 : (3 : Nat) ≠ D := Ne.symm dn.2.2.2.2.2.2.2.2.2.1
  have n31 : (3 : Nat) ≠ D + 1 := by omega
  unfold roS at ro
  rw [Bool.and_eq_true, decide_eq_true_eq, decide_eq_true_eq] at ro
  refine w_aload_n dX0_takeStatement_94 rfl rfl ?_
  refine w_callC (d2 := 0) (L2 := 0) (M2 := mX5_takesOneWord) (As := []) dX0_takeStatement_95 oX5_takesOneWord lX0_140 iX5_takesOneWord sX5_takesOneWord (kO_o9 hi) rfl rfl (fun v hv => by cases hv) (by decide) (Nat.le_of_ble_eq_true rfl) (by decide) (by decide) ?_
  refine T_tow hi (fun h4 => ?_) (fun h4 => absurd h4 (by omega))
  refine k_i rfl ?_
  refine w_if_eq (tgt := 112) dX0_takeStatement_98 (by decide) (fun c_98 => absurd c_98 (by decide)) (fun c_98 => ?_)
  refine w_aload_n dX0_takeStatement_101 rfl rfl ?_
  refine a_gD q dX0_takeStatement_102 fX0_21 ?_
  refine w_aload_n dX0_takeStatement_105 rfl rfl ?_
  refine a_g3 (k := 12) rfl q dX0_takeStatement_106 fX0_150 ?_
  refine w_v1 (d2 := 0) (L2 := 0) dX0_takeStatement_109 vX0_169 (D_n q.2.2.1).1 (q.1.lt (D_n q.2.2.1).2.1) rfl (by decide) (Nat.le_of_ble_eq_true rfl) (by decide) (by decide) ?_
  refine T_prad ar.2.2.2.1.1 ar.2.2.2.1.2 f q (fun hz fz qz => ?_)
  refine k_v rfl ?_
  exact L_s8 hi (ar.add q.2.2.1 (by have := ro.1; omega) (by have := ro.2; omega)) (by rw [adS_2]; exact np) fz qz (fun e e9 => FE.p (adS_3 n3 n31) (kE e e9)) (fun b e9 hx αx fx qx ax nx6 => fun y => kO b e9 hx αx fx qx ax nx6 (y.trans (adS_3 n3 n31)))

set_option maxRecDepth 20000 in
set_option maxHeartbeats 4000000 in
theorem L_sh {X : Nat × (Nat → Int32)} {h0 : PH} {Q : Option Value → PH → Prop} {T : List Int32} {D : Nat} {sec : Bool} {a : AS} {i pl : Nat} {A6 : Int32} (hB : Byt T) (hi : i < 37) (hi4 : 4 ≤ i) : ∀ (fs : List Int32) (j : Nat) (h : PH) (α : AK) (p : Nat), (sB (opSh.getD i 0)).drop j = fs → j ≤ (sB (opSh.getD i 0)).length → AR D T sec a α → α.2.2.1 1 = nI p → p ≤ T.length → α.1 3 6 = A6 → Fa D h0 h → RA D h T α → (∀ e, shS T (laS sec a.2.2.2.2.2) (a.2.2.2.1 + a.2.2.2.2.1.length) fs p (α.1 3 12) = .inl e → ∀ h' α', Fa D h0 h' → RA D h' T α' → α'.1 3 7 = e.1 → ¬ e.1 = 0 → α'.1 3 8 = nI e.2 → α'.1 3 6 = A6 → Q none h') → (∀ r, shS T (laS sec a.2.2.2.2.2) (a.2.2.2.1 + a.2.2.2.2.1.length) fs p (α.1 3 12) = .inr r → ∀ h' α' x3, Fa D h0 h' → RA D h' T α' → AR D T sec a α' → α'.1 3 12 = r.2 → α'.2.2.1 1 = nI r.1 → r.1 ≤ T.length → α'.1 3 6 = A6 → WP X mX0_takeStatement 4 91 94 [some (.ref 3), some (.ref (1000000 + i)), some (.int (nI pl)), x3] [] h' Q) → WP X mX0_takeStatement 4 91 42 [some (.ref 3), some (.ref (1000000 + i)), some (.int (nI pl)), some (.int (nI j))] [] h Q := by
  have hl := (opSh_lt i hi).2
  intro fs
  induction fs with
  | nil =>
    intro j h α p hj hj2 ar np hp e6 f q kE kO
    have hj3 : (sB (opSh.getD i 0)).length ≤ j := by
      have := congrArg List.length hj
      rw [List.length_drop, List.length_nil] at this; omega
    refine w_iload_n dX0_takeStatement_42 rfl rfl ?_
    refine w_aload_n dX0_takeStatement_43 rfl rfl ?_
    refine w_cget dX0_takeStatement_44 (kF_h9 hi) gX0_153 ?_
    refine w_callC (d2 := 1) (L2 := 20) (M2 := mJ0_length_8abf5) (As := []) dX0_takeStatement_47 oJ0_length_8abf5 lX0_157 iJ0_length_8abf5 sJ0_length_8abf5 (kO_s9 (opSh_lt i hi).1) rfl rfl (fun v hv => by cases hv) (by decide) (Nat.le_of_ble_eq_true rfl) (by decide) (by decide) ?_
    refine T_slen (opSh_lt i hi).1 ?_
    refine k_i rfl ?_
    refine w_icmp_ge (tgt := 86) dX0_takeStatement_50 (by decide) (fun c_50 => ?_) (fun c_50 => absurd c_50 (not_not_intro (nI_le hj3 (by omega))))
    refine w_aload_n dX0_takeStatement_86 rfl rfl ?_
    refine a_g3 (k := 7) rfl q dX0_takeStatement_87 fX0_45 ?_
    refine w_if_eq (tgt := 94) dX0_takeStatement_90 (by decide) (fun c_90 => ?_) (fun c_90 => absurd c_90 (not_not_intro ar.1))
    exact kO _ rfl _ _ _ f q ar rfl np hp e6
  | cons c fs ih =>
    intro j h α p hj hj2 ar np hp e6 f q kE kO
    have hx := nx_p hp
    have hj3 : j < (sB (opSh.getD i 0)).length := by
      have := congrArg List.length hj
      rw [List.length_drop, List.length_cons] at this; omega
    have hc : (sB (opSh.getD i 0))[j]? = some c := by
      have := congrArg (fun l => l[0]?) hj
      simpa [List.getElem?_drop] using this
    have hg : (sB (opSh.getD i 0)).getD j 0 = c := by rw [List.getD_eq_getElem?_getD, hc]; rfl
    have hm : c ∈ shL := by
      have := List.all_eq_true.mp (sh_ok i hi hi4) c (List.mem_of_getElem? hc)
      simpa using this
    have hd9 : (sB (opSh.getD i 0)).drop (j + 1) = fs := by rw [dr_s hc] at hj; exact (List.cons.inj hj).2
    have eh : α.1 D 4 + α.1 D 2 = nI (a.2.2.2.1 + a.2.2.2.2.1.length) := by rw [ar.2.2.2.1.1, ar.2.2.2.2.1.1, nI_add]
    refine w_iload_n dX0_takeStatement_42 rfl rfl ?_
    refine w_aload_n dX0_takeStatement_43 rfl rfl ?_
    refine w_cget dX0_takeStatement_44 (kF_h9 hi) gX0_153 ?_
    refine w_callC (d2 := 1) (L2 := 20) (M2 := mJ0_length_8abf5) (As := []) dX0_takeStatement_47 oJ0_length_8abf5 lX0_157 iJ0_length_8abf5 sJ0_length_8abf5 (kO_s9 (opSh_lt i hi).1) rfl rfl (fun v hv => by cases hv) (by decide) (Nat.le_of_ble_eq_true rfl) (by decide) (by decide) ?_
    refine T_slen (opSh_lt i hi).1 ?_
    refine k_i rfl ?_
    refine w_icmp_ge (tgt := 86) dX0_takeStatement_50 (by decide) (fun c_50 => absurd c_50 (nI_ge hj3 (by omega))) (fun c_50 => ?_)
    refine w_aload_n dX0_takeStatement_53 rfl rfl ?_
    refine a_g3 (k := 7) rfl q dX0_takeStatement_54 fX0_45 ?_
    refine w_if_ne (tgt := 86) dX0_takeStatement_57 (by decide) (fun c_57 => absurd c_57 (not_not_intro ar.1)) (fun c_57 => ?_)
    refine w_aload_n dX0_takeStatement_60 rfl rfl ?_
    refine w_gs (b := 12) q.1 dX0_takeStatement_61 fX0_41 (by decide) rfl rfl (by decide) ?_
    refine w_v0 (d2 := 3) (L2 := 70) dX0_takeStatement_64 vX0_101 rfl (q.1.lt (by decide)) (by decide) (Nat.le_of_ble_eq_true rfl) (by decide) (by decide) ?_
    refine T_adv (p := p) np hp Fk.rf q.2.1 (fun ha κa ga ra ta => ?_)
    have fa := f.k ga
    have qa := q.tok ga ra
    refine k_v rfl ?_
    refine w_aload_n dX0_takeStatement_67 rfl rfl ?_
    refine w_aload_n dX0_takeStatement_68 rfl rfl ?_
    refine w_cget dX0_takeStatement_69 (kF_h9 hi) gX0_153 ?_
    refine w_iload_n dX0_takeStatement_72 rfl rfl ?_
    refine w_callC (d2 := 3) (L2 := 64) (M2 := mJ0_charAt_5068e) (As := [.int (nI (j))]) dX0_takeStatement_73 oJ0_charAt_5068e lX0_161 iJ0_charAt_5068e sJ0_charAt_5068e (kO_s9 (opSh_lt i hi).1) rfl rfl (fun v hv => by simp only [List.mem_cons, List.not_mem_nil, or_false] at hv; rw [hv]; rfl) (Nat.le_of_ble_eq_true rfl) (Nat.le_of_ble_eq_true rfl) (by decide) (by decide) ?_
    refine T_char (i := j) (opSh_lt i hi).1 (hj3) ?_
    refine k_i rfl ?_
    rw [hg]
    refine w_iload_n dX0_takeStatement_76 rfl rfl ?_
    refine w_v2 (d2 := 3) (L2 := 69) dX0_takeStatement_77 vX0_165 rfl (qa.1.lt (by decide)) rfl rfl (by decide) (Nat.le_of_ble_eq_true rfl) (by decide) (by decide) ?_
    have ara : AR D T sec a (aT α κa) := ar
    refine T_op (Λ := laS sec a.2.2.2.2.2) ta hm hB ara.2.2.2.2.2.2.1 eh ara.1 fa qa (fun e e9 hz αz fz qz y1 y2 y3 y4 => ?_) (fun w e9 hz fz qz => ?_)
    · refine k_v rfl ?_
      refine w_iinc (v := (nI (j + 1))) dX0_takeStatement_80 rfl (nI_1 j) (by decide) ?_
      refine w_goto (tgt := 42) dX0_takeStatement_83 (by decide) ?_
      refine w_iload_n dX0_takeStatement_42 rfl rfl ?_
      refine w_aload_n dX0_takeStatement_43 rfl rfl ?_
      refine w_cget dX0_takeStatement_44 (kF_h9 hi) gX0_153 ?_
      refine w_callC (d2 := 1) (L2 := 20) (M2 := mJ0_length_8abf5) (As := []) dX0_takeStatement_47 oJ0_length_8abf5 lX0_157 iJ0_length_8abf5 sJ0_length_8abf5 (kO_s9 (opSh_lt i hi).1) rfl rfl (fun v hv => by cases hv) (by decide) (Nat.le_of_ble_eq_true rfl) (by decide) (by decide) ?_
      refine T_slen (opSh_lt i hi).1 ?_
      refine k_i rfl ?_
      refine w_icmp_ge (tgt := 86) dX0_takeStatement_50 (by decide) (fun c_50 => ?_) (fun c_50 => ?_)
      · refine w_aload_n dX0_takeStatement_86 rfl rfl ?_
        refine a_g3 (k := 7) rfl qz dX0_takeStatement_87 fX0_45 ?_
        refine w_if_eq (tgt := 94) dX0_takeStatement_90 (by decide) (fun c_90 => absurd c_90 (by rw [y1]; exact y2)) (fun c_90 => ?_)
        refine w_vret dX0_takeStatement_93 ?_
        exact kE (e, nx T p) (by rw [shS, show opS T _ _ c (nx T p) (α.1 3 12) = _ from e9]) _ _ fz qz y1 y2 y3 (y4.trans e6)
      · refine w_aload_n dX0_takeStatement_53 rfl rfl ?_
        refine a_g3 (k := 7) rfl qz dX0_takeStatement_54 fX0_45 ?_
        refine w_if_ne (tgt := 86) dX0_takeStatement_57 (by decide) (fun c_57 => ?_) (fun c_57 => absurd c_57 (by rw [y1]; exact y2))
        refine w_aload_n dX0_takeStatement_86 rfl rfl ?_
        refine a_g3 (k := 7) rfl qz dX0_takeStatement_87 fX0_45 ?_
        refine w_if_eq (tgt := 94) dX0_takeStatement_90 (by decide) (fun c_90 => absurd c_90 (by rw [y1]; exact y2)) (fun c_90 => ?_)
        refine w_vret dX0_takeStatement_93 ?_
        exact kE (e, nx T p) (by rw [shS, show opS T _ _ c (nx T p) (α.1 3 12) = _ from e9]) _ _ fz qz y1 y2 y3 (y4.trans e6)
    · refine k_v rfl ?_
      refine w_iinc (v := (nI (j + 1))) dX0_takeStatement_80 rfl (nI_1 j) (by decide) ?_
      refine w_goto (tgt := 42) dX0_takeStatement_83 (by decide) ?_
      exact ih (j + 1) hz (aP (aT α κa) 3 12 w) (uE T (nx T p)) hd9 (by omega) (ara.w q.2.2.1) ta.1 (uE_le hx.2) ((aP_k (by decide)).trans e6) fz qz (fun e g => kE e (by rw [shS, show opS T _ _ c (nx T p) (α.1 3 12) = _ from e9]; rw [aP_s] at g; exact g)) (fun r g => kO r (by rw [shS, show opS T _ _ c (nx T p) (α.1 3 12) = _ from e9]; rw [aP_s] at g; exact g))

