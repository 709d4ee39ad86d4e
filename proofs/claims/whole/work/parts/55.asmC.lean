/-! THE CLASS's ASSEMBLER: assemble() -/
theorem AR.start {D : Nat} {T : List Int32} {sec : Bool} {l : List (Nat × Nat)} {α : AK} {κ : KS} (hD : D = 6 ∨ D = 9) (e7 : α.1 3 7 = 0) (e8 : α.1 3 8 = -1) (lf : LF D T (laS sec l) α) : AR D T sec (0, false, false, 0, [], l) (aT (aP (aP (aP (aP α 3 10 0) 3 11 0) D 2 0) D 4 0) κ) := by
  have dn := D_n hD
  have n3 : (3 : Nat) ≠ D := Ne.symm dn.2.2.2.2.2.2.2.2.2.1
  have g := dn.2.2.2.2.2.2.2.2.2.2.2.2.2
  have c3 : ∀ k, k ≠ 10 → k ≠ 11 → (aP (aP (aP (aP α 3 10 0) 3 11 0) D 2 0) D 4 0).1 3 k = α.1 3 k := fun k h1 h2 => (aP_c n3).trans ((aP_c n3).trans ((aP_k h2).trans (aP_k h1)))
  refine ⟨(c3 7 (by decide) (by decide)).trans e7, (aP_c n3).trans ((aP_c n3).trans ((aP_k (by decide)).trans aP_s)), ⟨(aP_c n3).trans ((aP_c n3).trans aP_s), (c3 8 (by decide) (by decide)).trans e8⟩, ⟨(aP_k (by decide)).trans aP_s, show 0 ≤ 4096 from by decide⟩, ⟨aP_s, show 0 ≤ 65535 from by decide, show 0 + 0 ≤ 65536 from by decide⟩, (fun i v hv => by cases hv), ?_, Nat.zero_le _⟩
  obtain ⟨b1, b2, b3, b4⟩ := lf
  refine ⟨(c3 9 (by decide) (by decide)).trans b1, (aP_k (by decide)).trans ((aP_k (by decide)).trans ((aP_c (Ne.symm n3)).trans ((aP_c (Ne.symm n3)).trans b2))), b3, fun i hi => ?_⟩
  obtain ⟨d1, d2, d3, d4⟩ := b4 i hi
  exact ⟨d1, d2, (aP_c (by omega)).trans ((aP_c (by omega)).trans ((aP_c (by omega)).trans ((aP_c (by omega)).trans d3))), d4⟩
set_option maxRecDepth 20000 in
set_option maxHeartbeats 4000000 in
/-- pass() -/
theorem T_pass {X : Nat × (Nat → Int32)} {h0 h : PH} {Q : Option Value → PH → Prop} {T : List Int32} {α : AK} {D : Nat} {sec : Bool} {l : List (Nat × Nat)} (hB : Byt T) (e7 : α.1 3 7 = 0) (e8 : α.1 3 8 = -1) (lf : LF D T (laS sec l) α) (f : Fa D h0 h) (q : RA D h T α) (kE : ∀ e, psS T sec l = .inl e → FE D h0 T α Q e.1 e.2) (kO : ∀ b p, psS T sec l = .inr b → ∀ h' α', Fa D h0 h' → RA D h' T α' → AR D T sec (p, b.2) α' → α'.1 3 6 = α.1 3 6 → Q none h') : WP X mX0_pass 5 114 0 (en 4 [.ref 3]) [] h Q := by
  refine w_aload_n dX0_pass_0 rfl rfl ?_
  refine w_iconst dX0_pass_1 (v := 0) (by decide) ?_
  refine a_p3z (k := 10) rfl (by decide) f q dX0_pass_2 fX0_67 (fun h1 f1 q1 => ?_)
  refine w_aload_n dX0_pass_5 rfl rfl ?_
  refine w_iconst dX0_pass_6 (v := 0) (by decide) ?_
  refine a_p3z (k := 11) rfl (by decide) f1 q1 dX0_pass_7 fX0_70 (fun h2 f2 q2 => ?_)
  refine w_aload_n dX0_pass_10 rfl rfl ?_
  refine a_gD q2 dX0_pass_11 fX0_21 ?_
  refine w_iconst dX0_pass_14 (v := 0) (by decide) ?_
  refine a_pP (k := 2) rfl f2 q2 dX0_pass_15 fX0_73 (fun h3 f3 q3 => ?_)
  refine w_aload_n dX0_pass_18 rfl rfl ?_
  refine a_gD q3 dX0_pass_19 fX0_21 ?_
  refine w_iconst dX0_pass_22 (v := 0) (by decide) ?_
  refine a_pP (k := 4) rfl f3 q3 dX0_pass_23 fX0_76 (fun h4 f4 q4 => ?_)
  refine w_aload_n dX0_pass_26 rfl rfl ?_
  refine w_gs (b := 12) q4.1 dX0_pass_27 fX0_41 (by decide) rfl rfl (by decide) ?_
  refine w_v0 (d2 := 0) (L2 := 0) dX0_pass_30 vX0_79 rfl (q4.1.lt (by decide)) (by decide) (Nat.le_of_ble_eq_true rfl) (by decide) (by decide) ?_
  refine T_rewind Fk.rf q4.2.1 (fun ha ga ra => ?_)
  have fa := f4.k ga
  have qa := q4.tok ga ra
  refine k_v rfl ?_
  refine w_iconst dX0_pass_33 (v := 1) (by decide) ?_
  refine w_istore_n dX0_pass_34 rfl (by decide) ?_
  refine w_iconst dX0_pass_35 (v := 0) (by decide) ?_
  refine w_istore_n dX0_pass_36 rfl (by decide) ?_
  have hT := q.2.1.2.1.2.1
  have n3 : (3 : Nat) ≠ D := Ne.symm (D_n q.2.2.1).2.2.2.2.2.2.2.2.2.1
  have a0 := AR.start (κ := kG (aP (aP (aP (aP α 3 10 0) 3 11 0) D 2 0) D 4 0).2.2 1 0) q.2.2.1 e7 e8 lf
  refine L_ps (A6 := α.1 3 6) hB hT (T.length + 1) 0 (0, false, false, 0, [], l) _ _ _ (by omega) a0 kG_s (fun _ => rfl) rfl ((aP_c n3).trans ((aP_c n3).trans ((aP_k (by decide)).trans (aP_k (by decide))))) fa qa (fun e he hw αw x1 x2 x3 fw qw y1 y2 y3 y4 => ?_) (fun b he hw αw p x1 x2 x3 fw qw ab y4 => ?_)
  · have fe := kE e (by unfold psS; rw [he])
    refine w_aload_n dX0_pass_109 rfl rfl ?_
    refine a_g3 (k := 10) rfl qw dX0_pass_110 fX0_67 ?_
    refine w_if_ne (tgt := 128) dX0_pass_113 (by decide) (fun c_113 => ?_) (fun c_113 => ?_)
    · refine w_vret dX0_pass_128 ?_
      exact fe _ _ fw qw y1 y2 y3 y4
    · refine w_aload_n dX0_pass_116 rfl rfl ?_
      refine w_iconst dX0_pass_117 (v := 1) (by decide) ?_
      refine w_aload_n dX0_pass_118 rfl rfl ?_
      refine w_gs (b := 1) qw.1 dX0_pass_119 fX0_32 (by decide) rfl rfl (by decide) ?_
      refine a_len qw dX0_pass_122 fX0_82 ?_
      refine w_v2 (d2 := 0) (L2 := 0) dX0_pass_125 vX0_97 rfl (qw.1.lt (by decide)) rfl rfl (by decide) (Nat.le_of_ble_eq_true rfl) (by decide) (by decide) ?_
      refine T_fail fw qw (fun hv fv qv => ?_)
      rw [show faS αw 1 (nI T.length) = αw from if_neg (by rw [y1]; exact y2)] at qv
      refine k_v rfl ?_
      refine w_vret dX0_pass_128 ?_
      exact fe _ _ fv qv y1 y2 y3 y4
  · refine w_aload_n dX0_pass_109 rfl rfl ?_
    refine a_g3 (k := 10) rfl qw dX0_pass_110 fX0_67 ?_
    refine w_if_ne (tgt := 128) dX0_pass_113 (by decide) (fun c_113 => ?_) (fun c_113 => ?_)
    · rw [ab.2.1] at c_113
      refine w_vret dX0_pass_128 ?_
      exact kO b p (by unfold psS; rw [he]; exact if_pos (b01_1 c_113)) hw αw fw qw ab y4
    · rw [ab.2.1] at c_113
      refine w_aload_n dX0_pass_116 rfl rfl ?_
      refine w_iconst dX0_pass_117 (v := 1) (by decide) ?_
      refine w_aload_n dX0_pass_118 rfl rfl ?_
      refine w_gs (b := 1) qw.1 dX0_pass_119 fX0_32 (by decide) rfl rfl (by decide) ?_
      refine a_len qw dX0_pass_122 fX0_82 ?_
      refine w_v2 (d2 := 0) (L2 := 0) dX0_pass_125 vX0_97 rfl (qw.1.lt (by decide)) rfl rfl (by decide) (Nat.le_of_ble_eq_true rfl) (by decide) (by decide) ?_
      refine T_fail fw qw (fun hv fv qv => ?_)
      refine k_v rfl ?_
      refine w_vret dX0_pass_128 ?_
      exact fe1 (FE.p y4 (kE (1, T.length) (by unfold psS; rw [he]; exact if_neg (by rw [b01_f c_113]; decide)))) ab.1 (show ¬ (1 : Int32) = 0 from by decide) _ fv qv

/-- a program in cell E, as the class keeps it -/
def PG (E : Nat) (h : PH) (w : List Int32 × List Nat × Nat) : Prop := (hI h E 2 = nI w.1.length ∧ w.1.length ≤ 4096) ∧ (∀ (i : Nat) (v : Int32), w.1[i]? = some v → hI h (E + 1) i = v) ∧ (hI h E 3 = nI w.2.1.length ∧ w.2.1.length ≤ 200) ∧ (∀ (i v : Nat), w.2.1[i]? = some v → hI h (E + 2) i = nI v) ∧ hI h E 4 = nI w.2.2 ∧ w.2.2 ≤ 65535 ∧ w.2.2 + w.1.length ≤ 65536
/-- what the class keeps of what was assembled -/
def CK (h : PH) (κ : KE) : Prop := ∃ D, (D = 6 ∨ D = 9) ∧ hR h 3 4 = some D ∧ hR h 3 5 = some (15 - D) ∧ hI h 3 6 = κ.1 ∧ hI h 3 7 = κ.2.1 ∧ hI h 3 8 = κ.2.2.1 ∧ PG (15 - D) h κ.2.2.2
def FC (h h' : PH) : Prop := hn h' = hn h ∧ hc h' = hc h ∧ hs h' = hs h ∧ ∀ a, (a = 0 ∨ 12 < a) → hI h' a = hI h a ∧ hL h' a = hL h a ∧ hR h' a = hR h a
theorem PG.same {E : Nat} {h h' : PH} {w : List Int32 × List Nat × Nat} (q : PG E h w) (h1 : hI h' E = hI h E) (h2 : hI h' (E + 1) = hI h (E + 1)) (h3 : hI h' (E + 2) = hI h (E + 2)) : PG E h' w := by
  unfold PG; rw [h1, h2, h3]; exact q
theorem FC.af {D : Nat} {h h1 h2 : PH} (hD : D = 6 ∨ D = 9) (f : Fa D h h1) (g : Sm [1, 2] h1 h2) : FC h h2 := ⟨g.1.trans f.1, g.2.1.trans f.2.1, g.2.2.1.trans f.2.2.1, fun a ha => by
    have n1 : a ∉ [1, 2] := by rcases ha with rfl | ha; · decide
                               · simp; omega
    have n2 : a ∉ [3, 4, 5, 12, D, D + 1, D + 2] := by rcases hD with rfl | rfl <;> rcases ha with rfl | ha <;> simp <;> omega
    refine ⟨(g.2.2.2.2 a n1).1.trans (f.2.2.2.1 a n2).1, (g.2.2.2.2 a n1).2.trans (f.2.2.2.1 a n2).2, ?_⟩
    rw [g.2.2.2.1]; funext k; exact f.2.2.2.2 a k (fun e => by omega)⟩
set_option maxRecDepth 20000 in
set_option maxHeartbeats 4000000 in
theorem L_tr9 {X : Nat × (Nat → Int32)} {h : PH} {Q : Option Value → PH → Prop} {T : List Int32} {x1 : Option Value} (S : St h) (q : BY 1 2 4000 h T) (k : ∀ h', Sm [1, 2] h h' → BY 1 2 4000 h' [] → Q (some (.int (hI h 3 7))) h') : WP X mX0_translate 6 137 73 [some (.ref 3), x1] [] h Q := by
  refine w_aload_n dX0_translate_73 rfl rfl ?_
  refine w_gs (b := 1) S dX0_translate_74 fX0_32 (by decide) rfl rfl (by decide) ?_
  refine w_iconst dX0_translate_77 (v := 0) (by decide) ?_
  refine w_v1 (d2 := 0) (L2 := 0) dX0_translate_78 vX0_61 rfl (S.lt (by decide)) rfl (by decide) (Nat.le_of_ble_eq_true rfl) (by decide) (by decide) ?_
  refine T_cut1 (m := 0) (Nat.zero_le _) S Sm.rf q (fun hz fz qz => ?_)
  have Sz : St hz := fz.st S
  refine k_v rfl ?_
  refine w_aload_n dX0_translate_81 rfl rfl ?_
  refine w_gi Sz dX0_translate_82 fX0_45 rfl rfl (by decide) ?_
  refine w_iret dX0_translate_85 (fun _ e => by cases e; rfl) ?_
  rw [fz.I (by decide)]; exact k hz fz qz

theorem CK.fault {D : Nat} {h h1 h2 : PH} {κ : KE} {e p : Int32} (hD : D = 6 ∨ D = 9) (r4 : hR h 3 4 = some D) (r5 : hR h 3 5 = some (15 - D)) (pg : PG (15 - D) h κ.2.2.2) (f : Fa D h h1) (g : Sm [1, 2] h1 h2) (i6 : hI h1 3 6 = κ.1) (i7 : hI h1 3 7 = e) (i8 : hI h1 3 8 = p) : CK h2 (κ.1, e, p, κ.2.2.2) := by
  have r : ∀ k, hR h2 3 k = hR h 3 k := fun k => by rw [g.2.2.2.1]; exact f.2.2.2.2 3 k (by omega)
  have i : ∀ a, a ∉ [1, 2] → a ∉ [3, 4, 5, 12, D, D + 1, D + 2] → hI h2 a = hI h a := fun a a1 a2 => (g.2.2.2.2 a a1).1.trans (f.2.2.2.1 a a2).1
  refine ⟨D, hD, (r 4).trans r4, (r 5).trans r5, (congrFun (g.I (by decide)) 6).trans i6, (congrFun (g.I (by decide)) 7).trans i7, (congrFun (g.I (by decide)) 8).trans i8, ?_⟩
  rcases hD with rfl | rfl
  · exact pg.same (i 9 (by decide) (by decide)) (i 10 (by decide) (by decide)) (i 11 (by decide) (by decide))
  · exact pg.same (i 6 (by decide) (by decide)) (i 7 (by decide) (by decide)) (i 8 (by decide) (by decide))
theorem PG.of {D : Nat} {h : PH} {T : List Int32} {α : AK} {p : Nat} {b : AS} (q : RA D h T α) (ar : AR D T true (p, b.2) α) : PG D h (b.2.2.2.2.1, b.2.2.2.2.2.map Prod.snd, b.2.2.2.1) := by
  have m : ∀ c, c ∈ aCs D → ∀ k, hI h c k = α.1 c k := q.2.2.2.2.1
  obtain ⟨a1, a2, a3, a4, a5, a6, a7, a8⟩ := ar
  refine ⟨⟨(m D (by simp [aCs]) 2).trans a4.1, a4.2⟩, fun i v hv => (m (D + 1) (by simp [aCs]) i).trans (a6 i v hv), ⟨?_, ?_⟩, fun i v hv => ?_, (m D (by simp [aCs]) 4).trans a5.1, a5.2⟩
  · rw [m D (by simp [aCs]) 3, List.length_map]; exact a7.2.1
  · rw [List.length_map]; exact a7.2.2.1
  · have hv2 : (b.2.2.2.2.2.map Prod.snd)[i]? = some v := hv
    have hi := (List.getElem?_eq_some_iff.mp hv2).1
    rw [List.length_map] at hi
    rw [m (D + 2) (by simp [aCs]) i, (a7.2.2.2 i hi).2.2.1]
    show nI (b.2.2.2.2.2.getD i (0, 0)).2 = nI v
    rw [List.getElem?_map, List.getElem?_eq_getElem hi] at hv2
    rw [List.getD_eq_getElem?_getD, List.getElem?_eq_getElem hi]
    exact congrArg nI (Option.some.inj hv2)
theorem stR_d (k c : Nat) (h : k = 4 ∨ k = 5) : (3, k, c) ∉ stR := fun hc => by
  rcases h with rfl | rfl <;> simp [stR] at hc
set_option maxRecDepth 20000 in
set_option maxHeartbeats 4000000 in
/-- translate() -/
theorem T_ctrans {X : Nat × (Nat → Int32)} {h : PH} {Q : Option Value → PH → Prop} {T : List Int32} {κ : KE} (hB : Byt T) (ck : CK h κ) (tc : TC h T) (k : ∀ h', FC h h' → CK h' (asS T κ) → TC h' [] → Q (some (.int (asS T κ).2.1)) h') : WP X mX0_translate 6 137 0 (en 2 [.ref 3]) [] h Q := by
  obtain ⟨D, hD, r4, r5, i6, i7, i8, pg⟩ := ck
  have n3 : (3 : Nat) ≠ D := (Ne.symm (D_n hD).2.2.2.2.2.2.2.2.2.1)
  have f : Fa D h h := Fa.rf
  have q : RA D h T (fun c k => hI h c k, fun c k => hL h c k, (hI h 12, hL h 12 6, hL h 12 7, hR h 12 5)) := ⟨tc.1, ⟨tc.1, tc.2, fun k _ _ => rfl, rfl, rfl, rfl⟩, hD, r4, fun c _ k => rfl, fun c _ k => rfl⟩
  refine w_aload_n dX0_translate_0 rfl rfl ?_
  refine w_iconst dX0_translate_1 (v := 0) (by decide) ?_
  refine a_p3 (k := 7) rfl f q dX0_translate_2 fX0_45 (fun h1 f1 q1 => ?_)
  refine w_aload_n dX0_translate_5 rfl rfl ?_
  refine w_iconst dX0_translate_6 (v := (-1)) (by decide) ?_
  refine a_p3 (k := 8) rfl f1 q1 dX0_translate_7 fX0_28 (fun h2 f2 q2 => ?_)
  refine w_aload_n dX0_translate_10 rfl rfl ?_
  refine a_gD q2 dX0_translate_11 fX0_21 ?_
  refine w_iconst dX0_translate_14 (v := 0) (by decide) ?_
  refine a_pP (k := 3) rfl f2 q2 dX0_translate_15 fX0_48 (fun h3 f3 q3 => ?_)
  refine w_aload_n dX0_translate_18 rfl rfl ?_
  refine w_iconst dX0_translate_19 (v := 0) (by decide) ?_
  refine a_p3z (k := 9) rfl (by decide) f3 q3 dX0_translate_20 fX0_51 (fun h4 f4 q4 => ?_)
  refine w_aload_n dX0_translate_23 rfl rfl ?_
  refine w_v0 (d2 := 5) (L2 := 114) dX0_translate_24 vX0_55 rfl (q4.1.lt (by decide)) (by decide) (Nat.le_of_ble_eq_true rfl) (by decide) (by decide) ?_
  have e71 : (aP (aP (aP (aP (fun c k => hI h c k, fun c k => hL h c k, (hI h 12, hL h 12 6, hL h 12 7, hR h 12 5)) 3 7 0) 3 8 (-1)) D 3 0) 3 9 0).1 3 7 = 0 := (aP_k (by decide)).trans ((aP_c n3).trans ((aP_k (by decide)).trans aP_s))
  have e61 : (aP (aP (aP (aP (fun c k => hI h c k, fun c k => hL h c k, (hI h 12, hL h 12 6, hL h 12 7, hR h 12 5)) 3 7 0) 3 8 (-1)) D 3 0) 3 9 0).1 3 6 = κ.1 := (aP_k (by decide)).trans ((aP_c n3).trans ((aP_k (by decide)).trans ((aP_k (by decide)).trans i6)))
  have lf1 : LF D T (laS false []) (aP (aP (aP (aP (fun c k => hI h c k, fun c k => hL h c k, (hI h 12, hL h 12 6, hL h 12 7, hR h 12 5)) 3 7 0) 3 8 (-1)) D 3 0) 3 9 0) := ⟨aP_s, (aP_c (Ne.symm n3)).trans aP_s, by decide, fun i hi => absurd hi (by show ¬ i < 0; omega)⟩
  have e81 : (aP (aP (aP (aP (fun c k => hI h c k, fun c k => hL h c k, (hI h 12, hL h 12 6, hL h 12 7, hR h 12 5)) 3 7 0) 3 8 (-1)) D 3 0) 3 9 0).1 3 8 = -1 := (aP_k (by decide)).trans ((aP_c n3).trans aP_s)
  refine T_pass hB e71 e81 lf1 f4 q4 (fun e e9 hz αz fz qz y1 y2 y3 y4 => ?_) (fun b p e1 hz αz fz qz ab y4 => ?_)
  · refine k_v rfl ?_
    refine w_aload_n dX0_translate_27 rfl rfl ?_
    refine a_g3 (k := 7) rfl qz dX0_translate_28 fX0_45 ?_
    refine w_if_ne (tgt := 43) dX0_translate_31 (by decide) (fun c_31 => ?_) (fun c_31 => absurd c_31 (by rw [y1]; exact y2))
    refine w_aload_n dX0_translate_43 rfl rfl ?_
    refine a_g3 (k := 7) rfl qz dX0_translate_44 fX0_45 ?_
    refine w_if_ne (tgt := 73) dX0_translate_47 (by decide) (fun c_47 => ?_) (fun c_47 => absurd c_47 (by rw [y1]; exact y2))
    refine L_tr9 qz.1 qz.2.1.2.1 (fun hy gy by8 => ?_)
    have m9 : ∀ j, hI hz 3 j = αz.1 3 j := qz.2.2.2.2.1 3 List.mem_cons_self
    rw [m9 7, y1]
    have as : asS T κ = (κ.1, e.1, nI e.2, κ.2.2.2) := by unfold asS; rw [e9]
    have k9 := k hy (FC.af hD fz gy) (by rw [as]; exact CK.fault hD r4 r5 pg fz gy ((m9 6).trans (y4.trans e61)) ((m9 7).trans y1) ((m9 8).trans y3)) ⟨gy.st qz.1, by8⟩
    rw [as] at k9; exact k9
  · refine k_v rfl ?_
    refine w_aload_n dX0_translate_27 rfl rfl ?_
    refine a_g3 (k := 7) rfl qz dX0_translate_28 fX0_45 ?_
    refine w_if_ne (tgt := 43) dX0_translate_31 (by decide) (fun c_31 => absurd c_31 (not_not_intro ab.1)) (fun c_31 => ?_)
    refine w_aload_n dX0_translate_34 rfl rfl ?_
    refine w_iconst dX0_translate_35 (v := 1) (by decide) ?_
    refine a_p3z (k := 9) rfl (by decide) fz qz dX0_translate_36 fX0_51 (fun h5 f5 q5 => ?_)
    refine w_aload_n dX0_translate_39 rfl rfl ?_
    refine w_v0 (d2 := 5) (L2 := 114) dX0_translate_40 vX0_55 rfl (q5.1.lt (by decide)) (by decide) (Nat.le_of_ble_eq_true rfl) (by decide) (by decide) ?_
    have lf2 : LF D T (laS true b.2.2.2.2.2) (aP αz 3 9 1) := by
      obtain ⟨b1, b2, b3, b4⟩ := ab.2.2.2.2.2.2.1
      exact ⟨aP_s, (aP_c (Ne.symm n3)).trans b2, b3, fun i hi => ⟨(b4 i hi).1, (b4 i hi).2.1, (aP_c (by have := (D_n hD).2.2.2.2.2.2.2.2.2.2.2.2.2; omega)).trans (b4 i hi).2.2.1, (b4 i hi).2.2.2⟩⟩
    have e72 : (aP αz 3 9 1).1 3 7 = 0 := (aP_k (by decide)).trans ab.1
    have e62 : (aP αz 3 9 1).1 3 6 = κ.1 := (aP_k (by decide)).trans (y4.trans e61)
    refine T_pass (sec := true) hB e72 ((aP_k (by decide)).trans ab.2.2.1.2) lf2 f5 q5 (fun e e2 hz αz fz qz y1 y2 y3 y4 => ?_) (fun b' p' e2 hz αz fz qz ab y4 => ?_)
    · refine k_v rfl ?_
      refine w_aload_n dX0_translate_43 rfl rfl ?_
      refine a_g3 (k := 7) rfl qz dX0_translate_44 fX0_45 ?_
      refine w_if_ne (tgt := 73) dX0_translate_47 (by decide) (fun c_47 => ?_) (fun c_47 => absurd c_47 (by rw [y1]; exact y2))
      refine L_tr9 qz.1 qz.2.1.2.1 (fun hy gy by8 => ?_)
      have m9 : ∀ j, hI hz 3 j = αz.1 3 j := qz.2.2.2.2.1 3 List.mem_cons_self
      rw [m9 7, y1]
      have as : asS T κ = (κ.1, e.1, nI e.2, κ.2.2.2) := by unfold asS; rw [e1]; show (match psS T true b.2.2.2.2.2 with | .inl e => _ | .inr c => _) = _; rw [e2]
      have k9 := k hy (FC.af hD fz gy) (by rw [as]; exact CK.fault hD r4 r5 pg fz gy ((m9 6).trans (y4.trans e62)) ((m9 7).trans y1) ((m9 8).trans y3)) ⟨gy.st qz.1, by8⟩
      rw [as] at k9; exact k9
    · refine k_v rfl ?_
      refine w_aload_n dX0_translate_43 rfl rfl ?_
      refine a_g3 (k := 7) rfl qz dX0_translate_44 fX0_45 ?_
      refine w_if_ne (tgt := 73) dX0_translate_47 (by decide) (fun c_47 => absurd c_47 (not_not_intro ab.1)) (fun c_47 => ?_)
      have r5z : hR hz 3 5 = some (15 - D) := (fz.2.2.2.2 3 5 (by omega)).trans r5
      have dn := D_n hD
      refine w_aload_n dX0_translate_50 rfl rfl ?_
      refine w_getR (b := 15 - D) dX0_translate_51 fX0_25 rfl rfl (qz.1.lt (by decide)) r5z ?_
      refine w_astore_n dX0_translate_54 rfl (by decide) ?_
      refine w_aload_n dX0_translate_55 rfl rfl ?_
      refine w_aload_n dX0_translate_56 rfl rfl ?_
      refine a_gD qz dX0_translate_57 fX0_21 ?_
      refine w_putR (v := some D) dX0_translate_60 fX0_25 (Or.inl rfl) rfl rfl (qz.1.lt (by decide)) rfl ?_
      have s1 : St (sR hz 3 5 (some D)) := qz.1.r (fun c => stR_d 5 c (Or.inr rfl))
      refine w_aload_n dX0_translate_63 rfl rfl ?_
      refine w_aload_n dX0_translate_64 rfl rfl ?_
      refine w_putR (v := some (15 - D)) dX0_translate_65 fX0_21 (Or.inl rfl) rfl rfl (s1.lt (by decide)) rfl ?_
      have s2 : St (sR (sR hz 3 5 (some D)) 3 4 (some (15 - D))) := s1.r (fun c => stR_d 4 c (Or.inl rfl))
      refine w_aload_n dX0_translate_68 rfl rfl ?_
      refine w_iconst dX0_translate_69 (v := 1) (by decide) ?_
      refine w_pz s2 dX0_translate_70 fX0_58 (by decide) rfl rfl (by decide) ?_
      have by9 : BY 1 2 4000 (sI (sR (sR hz 3 5 (some D)) 3 4 (some (15 - D))) 3 6 1) T := qz.2.1.2.1
      have i7 : hI (sI (sR (sR hz 3 5 (some D)) 3 4 (some (15 - D))) 3 6 1) 3 7 = 0 := (rI_k (by decide)).trans ((qz.2.2.2.2.1 3 List.mem_cons_self 7).trans ab.1)
      refine L_tr9 s2.i by9 (fun hy gy by8 => ?_)
      rw [i7]
      have as : asS T κ = (1, 0, -1, b'.2.2.2.2.1, b'.2.2.2.2.2.map Prod.snd, b'.2.2.2.1) := by unfold asS; rw [e1]; show (match psS T true b.2.2.2.2.2 with | .inl e => _ | .inr c => _) = _; rw [e2]
      have k9 := k hy ?_ ?_ ?_
      · rw [as] at k9; exact k9
      · refine ⟨gy.1.trans fz.1, gy.2.1.trans fz.2.1, gy.2.2.1.trans fz.2.2.1, fun a ha => ?_⟩
        have n1 : a ∉ [1, 2] := by
          rcases ha with rfl | ha
          · decide
          · simp; omega
        have n2 : a ∉ [3, 4, 5, 12, D, D + 1, D + 2] := by rcases hD with rfl | rfl <;> rcases ha with rfl | ha <;> simp <;> omega
        have n3 : a ≠ 3 := fun e => n2 (by rw [e]; simp)
        refine ⟨(gy.2.2.2.2 a n1).1.trans ((up2_o _ _ _ n3).trans (fz.2.2.2.1 a n2).1), (gy.2.2.2.2 a n1).2.trans (fz.2.2.2.1 a n2).2, ?_⟩
        rw [gy.2.2.2.1]
        show up2 (up2 (hR hz) 3 5 (some D)) 3 4 (some (15 - D)) a = _
        rw [up2_o _ _ _ n3, up2_o _ _ _ n3]
        funext j
        exact fz.2.2.2.2 a j (fun e => by omega)
      · rw [as]
        have hE : 15 - D = 6 ∨ 15 - D = 9 := by omega
        have hDE : 15 - (15 - D) = D := by omega
        have pg9 := PG.of qz ab
        refine ⟨15 - D, hE, ?_, ?_, ?_, ?_, ?_, ?_⟩
        · rw [gy.2.2.2.1]; show up2 (up2 (hR hz) 3 5 (some D)) 3 4 (some (15 - D)) 3 4 = _; rfl
        · rw [gy.2.2.2.1, hDE]; show up2 (up2 (hR hz) 3 5 (some D)) 3 4 (some (15 - D)) 3 5 = _; rfl
        · rw [gy.I (by decide)]; rw [rI, if_pos rfl, if_pos rfl]
        · rw [gy.I (by decide)]; exact i7
        · rw [gy.I (by decide), rI_k (by decide)]; exact (qz.2.2.2.2.1 3 List.mem_cons_self 8).trans ab.2.2.1.2
        · rw [hDE]
          have i9 : ∀ c, c ∉ [1, 2] → c ≠ 3 → hI hy c = hI hz c := fun c h1 h2 => (gy.I h1).trans (show up2 (hI hz) 3 6 1 c = hI hz c from up2_o _ _ _ h2)
          rcases hD with rfl | rfl
          · exact pg9.same (i9 _ (by decide) (by decide)) (i9 _ (by decide) (by decide)) (i9 _ (by decide) (by decide))
          · exact pg9.same (i9 _ (by decide) (by decide)) (i9 _ (by decide) (by decide)) (i9 _ (by decide) (by decide))
      · exact ⟨gy.st s2.i, by8⟩

set_option maxRecDepth 20000 in
set_option maxHeartbeats 4000000 in
/-- assemble() -/
theorem T_casm {X : Nat × (Nat → Int32)} {h : PH} {Q : Option Value → PH → Prop} {T : List Int32} {κ : KE} (S : St h) (hB : Byt T) (ck : CK h κ) (tc : TC h T) (k : ∀ h', FC h h' → CK h' (asS T κ) → TC h' [] → Q (some (.int (asS T κ).2.1)) h') : WP X mX10_assemble 7 158 0 (en 1 [.ref 0]) [] h Q := by
  refine w_aload_n dX10_assemble_0 rfl rfl ?_
  refine w_gs (b := 3) S dX10_assemble_1 fX10_23 (by decide) rfl rfl (by decide) ?_
  refine w_v0 (d2 := 6) (L2 := 137) dX10_assemble_4 vX10_55 rfl (S.lt (by decide)) (by decide) (Nat.le_of_ble_eq_true rfl) (by decide) (by decide) ?_
  refine T_ctrans hB ck tc (fun hz fz cz tz => ?_)
  refine k_i rfl ?_
  refine w_iret dX10_assemble_7 (fun _ e => by cases e; rfl) ?_
  exact k hz fz cz tz

