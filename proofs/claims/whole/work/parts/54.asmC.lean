/-! THE CLASS's ASSEMBLER: a pass -/
theorem b01_f {b : Bool} (h : b01 b = 0) : b = false := by
  cases b
  · rfl
  · exact absurd h (by decide)
theorem AR.nl {D : Nat} {T : List Int32} {sec : Bool} {b : AS} {α : AK} {κ : KS} {p : Nat} (h : AR D T sec b α) (hp : p ≤ T.length) : AR D T sec (p, b.2) (aT α κ) := AR.ps (p := b.1) h hp
theorem te_o {T : List Int32} {sec : Bool} {s : Nat} {a b : AS} (h : teS T sec s a = .inr b) : b.2.1 = a.2.1 ∧ b.2.2.1 = a.2.2.1 ∧ b.2.2.2.2.1 = a.2.2.2.2.1 := by
  unfold teS at h
  split at h
  · cases h; exact ⟨rfl, rfl, rfl⟩
  split at h
  · cases h
  split at h
  · cases h
  · cases h; exact ⟨rfl, rfl, rfl⟩
theorem ls_o {T : List Int32} {sec : Bool} {s : Nat} {a b : AS} (h : lsS T sec a = .inr (b, s)) : b.2.1 = a.2.1 ∧ b.2.2.1 = a.2.2.1 ∧ b.2.2.2.2.1 = a.2.2.2.2.1 := by
  unfold lsS at h
  split at h
  · cases e : teS T sec (nx T a.1) a with
    | inl x => rw [e] at h; cases h
    | inr c => rw [e] at h; cases h; exact te_o e
  · cases h; exact ⟨rfl, rfl, rfl⟩
theorem sm_b {T : List Int32} {sec : Bool} {i s : Nat} {a b : AS} (h : smS T sec i s a = .inr b) : b.2.1 = true := by
  unfold smS at h
  split at h
  · split at h
    · split at h
      · cases h
      split at h
      · cases h
      cases h; rfl
    · cases h
  split at h
  · split at h
    · split at h
      · cases h
      split at h
      · cases h
      split at h
      · cases h; rfl
      · cases h
    · cases h
  split at h
  · split at h
    · split at h
      · cases h; rfl
      · cases h
    · cases h
  split at h
  · cases h; rfl
  split at h
  · split at h
    · cases h
    · cases h; rfl
  · cases h
theorem en_b {T : List Int32} {a b : AS} (h : enS T a = .inr b) : b.2 = a.2 := by
  unfold enS at h
  split at h
  · cases h; rfl
  · cases h
set_option maxRecDepth 20000 in
set_option maxHeartbeats 4000000 in
theorem L_px {X : Nat × (Nat → Int32)} {h : PH} {Q : Option Value → PH → Prop} {T : List Int32} {α : AK} {D : Nat} {k9 : Nat} {x1 x3 : Option Value} (hk : k9 ≤ 4000) (q : RA D h T α) (kX : ∀ x1 x2, WP X mX0_pass 5 114 109 [some (.ref 3), x1, x2, x3] [] h Q) : WP X mX0_pass 5 114 101 [some (.ref 3), x1, some (.int (nI k9)), x3] [] h Q := by
  refine w_iconst dX0_pass_101 (v := 0) (by decide) ?_
  refine w_istore_n dX0_pass_102 rfl (by decide) ?_
  refine w_iinc (v := (nI (k9 + 1))) dX0_pass_103 rfl (nI_1 k9) (by decide) ?_
  refine w_goto (tgt := 37) dX0_pass_106 (by decide) ?_
  refine w_iload_n dX0_pass_37 rfl rfl ?_
  refine w_aload_n dX0_pass_38 rfl rfl ?_
  refine w_gs (b := 1) q.1 dX0_pass_39 fX0_32 (by decide) rfl rfl (by decide) ?_
  refine a_len q dX0_pass_42 fX0_82 ?_
  refine w_icmp_gt (tgt := 109) dX0_pass_45 (by decide) (fun c_45 => ?_) (fun c_45 => ?_)
  · exact kX _ _
  · refine w_iload_n dX0_pass_48 rfl rfl ?_
    refine w_if_eq (tgt := 109) dX0_pass_49 (by decide) (fun c_49 => ?_) (fun c_49 => absurd c_49 (by decide))
    exact kX _ _

set_option maxRecDepth 20000 in
set_option maxHeartbeats 4000000 in
theorem L_pf {X : Nat × (Nat → Int32)} {h : PH} {Q : Option Value → PH → Prop} {T : List Int32} {α : AK} {D : Nat} {k9 : Nat} {x1 x3 : Option Value} (hk : k9 ≤ 4000) (e7 : ¬ α.1 3 7 = 0) (q : RA D h T α) (kX : ∀ x1 x2, WP X mX0_pass 5 114 109 [some (.ref 3), x1, x2, x3] [] h Q) : WP X mX0_pass 5 114 73 [some (.ref 3), x1, some (.int (nI k9)), x3] [] h Q := by
  refine w_aload_n dX0_pass_73 rfl rfl ?_
  refine a_g3 (k := 7) rfl q dX0_pass_74 fX0_45 ?_
  refine w_if_ne (tgt := 101) dX0_pass_77 (by decide) (fun c_77 => ?_) (fun c_77 => absurd c_77 e7)
  exact L_px hk q kX

set_option maxRecDepth 20000 in
set_option maxHeartbeats 4000000 in
theorem L_pn {X : Nat × (Nat → Int32)} {h : PH} {Q : Option Value → PH → Prop} {T : List Int32} {α : AK} {D : Nat} {sec : Bool} {b : AS} {k9 : Nat} {x1 x3 : Option Value} (hk : k9 ≤ 4000) (ar : AR D T sec b α) (np : α.2.2.1 1 = nI b.1) (q : RA D h T α) (kX : (b.2.2.1 = true ∨ T.length ≤ b.1) → ∀ x1 x2, WP X mX0_pass 5 114 109 [some (.ref 3), x1, x2, x3] [] h Q) (kL : b.2.2.1 = false → b.1 < T.length → ∀ h', Fk h h' → RK h' T (kG α.2.2 1 (nI (b.1 + 1))) → WP X mX0_pass 5 114 37 [some (.ref 3), some (.int 1), some (.int (nI (k9 + 1))), x3] [] h' Q) : WP X mX0_pass 5 114 73 [some (.ref 3), x1, some (.int (nI k9)), x3] [] h Q := by
  refine w_aload_n dX0_pass_73 rfl rfl ?_
  refine a_g3 (k := 7) rfl q dX0_pass_74 fX0_45 ?_
  refine w_if_ne (tgt := 101) dX0_pass_77 (by decide) (fun c_77 => absurd c_77 (not_not_intro ar.1)) (fun c_77 => ?_)
  refine w_aload_n dX0_pass_80 rfl rfl ?_
  refine a_g3 (k := 11) rfl q dX0_pass_81 fX0_70 ?_
  refine w_if_ne (tgt := 101) dX0_pass_84 (by decide) (fun c_84 => ?_) (fun c_84 => ?_)
  · rw [ar.2.2.1.1] at c_84
    exact L_px hk q (kX (Or.inl (b01_1 c_84)))
  · rw [ar.2.2.1.1] at c_84
    refine w_aload_n dX0_pass_87 rfl rfl ?_
    refine w_gs (b := 12) q.1 dX0_pass_88 fX0_41 (by decide) rfl rfl (by decide) ?_
    refine w_v0 (d2 := 0) (L2 := 0) dX0_pass_91 vX0_93 rfl (q.1.lt (by decide)) (by decide) (Nat.le_of_ble_eq_true rfl) (by decide) (by decide) ?_
    refine T_nextL np ar.2.2.2.2.2.2.2 Fk.rf q.2.1 (fun hn => ?_) (fun hn hz fz qz => ?_)
    · refine k_i rfl ?_
      refine w_if_eq (tgt := 101) dX0_pass_94 (by decide) (fun c_94 => ?_) (fun c_94 => absurd c_94 (by decide))
      exact L_px hk q (kX (Or.inr hn))
    · refine k_i rfl ?_
      refine w_if_eq (tgt := 101) dX0_pass_94 (by decide) (fun c_94 => absurd c_94 (by decide)) (fun c_94 => ?_)
      refine w_iconst dX0_pass_97 (v := 1) (by decide) ?_
      refine w_goto (tgt := 102) dX0_pass_98 (by decide) ?_
      refine w_istore_n dX0_pass_102 rfl (by decide) ?_
      refine w_iinc (v := (nI (k9 + 1))) dX0_pass_103 rfl (nI_1 k9) (by decide) ?_
      refine w_goto (tgt := 37) dX0_pass_106 (by decide) ?_
      exact kL (b01_f c_84) hn _ fz qz

set_option maxRecDepth 20000 in
set_option maxHeartbeats 4000000 in
theorem T_st {X : Nat × (Nat → Int32)} {h0 h : PH} {Q : Option Value → PH → Prop} {T : List Int32} {α : AK} {D : Nat} {s : Nat} (hB : Byt T) (hs : s ≤ T.length) (t : TK T s α.2.2) {sec : Bool} {a : AS} (ar : AR D T sec a α) {i : Nat} (hi : i < 37) (hm : i = 0 → a.2.2.2.2.1 = []) (f : Fa D h0 h) (q : RA D h T α) (kE1 : ∀ e, smS T sec i s a = .inl e → FE D h0 T α Q e.1 e.2) (kE2 : ∀ b e, smS T sec i s a = .inr b → enS T b = .inl e → FE D h0 T α Q e.1 e.2) (kO : ∀ b c, smS T sec i s a = .inr b → enS T b = .inr c → GP D h0 T α Q sec c) : WP X mX0_takeStatement 4 91 0 (en 4 [.ref 3, .ref (1000000 + i)]) [] h Q := by
  by_cases h4 : 4 ≤ i
  · exact T_st4 hB hs t ar hi h4 f q kE1 kE2 kO
  by_cases e0 : i = 0
  · subst e0; exact T_st0 hB hs t ar (hm rfl) f q kE1 kE2 kO
  by_cases e1 : i = 1
  · subst e1; exact T_st1 hB hs t ar f q kE1 kE2 kO
  by_cases e2 : i = 2
  · subst e2; exact T_st2 hB hs t ar f q kE1 kE2 kO
  have e3 : i = 3 := by omega
  subst e3; exact T_st3 hB hs t ar f q kE1 kE2 kO

theorem psL_out {T : List Int32} {sec : Bool} {m : Nat} {a : AS} (h : T.length ≤ a.1) : psL T sec m a = .inr a := by
  cases m with
  | zero => rfl
  | succ m => rw [psL, if_neg (by omega)]
set_option maxRecDepth 20000 in
set_option maxHeartbeats 4000000 in
theorem L_ps {X : Nat × (Nat → Int32)} {h0 : PH} {Q : Option Value → PH → Prop} {T : List Int32} {D : Nat} {sec : Bool} {A6 : Int32} (hB : Byt T) (hT : T.length ≤ 4000) : ∀ (m k9 : Nat) (a : AS) (h : PH) (α : AK) (x : Option Value), m + k9 = T.length + 1 → AR D T sec a α → α.2.2.1 1 = nI a.1 → (a.2.1 = false → a.2.2.2.2.1 = []) → a.2.2.1 = false → α.1 3 6 = A6 → Fa D h0 h → RA D h T α → (∀ e, psL T sec m a = .inl e → ∀ h' α' x1 x2 x3, Fa D h0 h' → RA D h' T α' → α'.1 3 7 = e.1 → ¬ e.1 = 0 → α'.1 3 8 = nI e.2 → α'.1 3 6 = A6 → WP X mX0_pass 5 114 109 [some (.ref 3), x1, x2, x3] [] h' Q) → (∀ b, psL T sec m a = .inr b → ∀ h' α' p x1 x2 x3, Fa D h0 h' → RA D h' T α' → AR D T sec (p, b.2) α' → α'.1 3 6 = A6 → WP X mX0_pass 5 114 109 [some (.ref 3), x1, x2, x3] [] h' Q) → WP X mX0_pass 5 114 37 [some (.ref 3), some (.int 1), some (.int (nI k9)), x] [] h Q := by
  intro m
  induction m with
  | zero =>
    intro k9 a h α x hm ar np iv ov a6 f q kE kO
    refine w_iload_n dX0_pass_37 rfl rfl ?_
    refine w_aload_n dX0_pass_38 rfl rfl ?_
    refine w_gs (b := 1) q.1 dX0_pass_39 fX0_32 (by decide) rfl rfl (by decide) ?_
    refine a_len q dX0_pass_42 fX0_82 ?_
    refine w_icmp_gt (tgt := 109) dX0_pass_45 (by decide) (fun c_45 => ?_) (fun c_45 => absurd c_45 (not_not_intro (nI_lt (by omega) (by omega))))
    exact kO a rfl h α a.1 _ _ _ f q ar a6
  | succ m ih =>
    intro k9 a h α x hm ar np iv ov a6 f q kE kO
    have hp := ar.2.2.2.2.2.2.2
    have hb0 : a.2.1 = true ∨ a.2.2.2.2.1 = [] := by
      cases hb : a.2.1
      · exact Or.inr (iv hb)
      · exact Or.inl rfl
    refine w_iload_n dX0_pass_37 rfl rfl ?_
    refine w_aload_n dX0_pass_38 rfl rfl ?_
    refine w_gs (b := 1) q.1 dX0_pass_39 fX0_32 (by decide) rfl rfl (by decide) ?_
    refine a_len q dX0_pass_42 fX0_82 ?_
    refine w_icmp_gt (tgt := 109) dX0_pass_45 (by decide) (fun c_45 => absurd c_45 (nI_nlt (by omega) (by omega))) (fun c_45 => ?_)
    refine w_iload_n dX0_pass_48 rfl rfl ?_
    refine w_if_eq (tgt := 109) dX0_pass_49 (by decide) (fun c_49 => absurd c_49 (by decide)) (fun c_49 => ?_)
    refine w_aload_n dX0_pass_52 rfl rfl ?_
    refine w_v0 (d2 := 4) (L2 := 91) dX0_pass_53 vX0_85 rfl (q.1.lt (by decide)) (by decide) (Nat.le_of_ble_eq_true rfl) (by decide) (by decide) ?_
    have flt : ∀ (e : FA) (v : Value) (hw : PH) (αw : AK), psL T sec (m + 1) a = .inl e → (v = .null ∨ ∃ i, i < 37 ∧ v = .ref (1000000 + i)) → Fa D h0 hw → RA D hw T αw → αw.1 3 7 = e.1 → ¬ e.1 = 0 → αw.1 3 8 = nI e.2 → αw.1 3 6 = A6 → rok mX0_takeStart (some v) ∧ WP X mX0_pass 5 114 56 [some (.ref 3), some (.int 1), some (.int (nI k9)), x] ((some v).toList ++ []) hw Q := by
      intro e v hw αw ps hv fw qw y1 y2 y3 y4
      have kx := fun x3 x1 x2 => kE e ps hw αw x1 x2 x3 fw qw y1 y2 y3 y4
      have e7 : ¬ αw.1 3 7 = 0 := by rw [y1]; exact y2
      rcases hv with rfl | ⟨i, hi, rfl⟩
      · refine k_rN rfl ?_
        refine w_astore_nN dX0_pass_56 rfl (by decide) ?_
        refine w_aload_nN dX0_pass_57 rfl rfl ?_
        refine w_ifnullN (tgt := 73) dX0_pass_58 (by decide) ?_
        exact L_pf (by omega) e7 qw (kx _)
      · refine k_r rfl ?_
        refine w_astore_n dX0_pass_56 rfl (by decide) ?_
        refine w_aload_n dX0_pass_57 rfl rfl ?_
        refine w_ifnull dX0_pass_58 ?_
        refine w_aload_n dX0_pass_61 rfl rfl ?_
        refine a_g3 (k := 7) rfl qw dX0_pass_62 fX0_45 ?_
        refine w_if_ne (tgt := 73) dX0_pass_65 (by decide) (fun c_65 => ?_) (fun c_65 => absurd c_65 e7)
        exact L_pf (by omega) e7 qw (kx _)
    by_cases hlt : a.1 < T.length
    · have aft : ∀ (b : AS) (h' : PH) (α' : AK) (x3 : Option Value), lnS T sec a = .inr b → b.2.1 = true ∨ b.2.2.2.2.1 = [] → Fa D h0 h' → RA D h' T α' → AR D T sec b α' → α'.2.2.1 1 = nI b.1 → α'.1 3 6 = A6 → WP X mX0_pass 5 114 73 [some (.ref 3), some (.int 1), some (.int (nI k9)), x3] [] h' Q := by
        intro b h' α' x3 el iv' f' q' ar' np' a6'
        have ps : psL T sec (m + 1) a = if b.2.2.1 = true then .inr b else psL T sec m (b.1 + 1, b.2) := by rw [psL, if_pos hlt, el]
        refine L_pn (by omega) ar' np' q' (fun hx x1 x2 => ?_) (fun ho hl2 hz fz qz => ?_)
        · by_cases hov : b.2.2.1 = true
          · exact kO b (by rw [ps, if_pos hov]) h' α' b.1 x1 x2 x3 f' q' ar' a6'
          · have hge := hx.resolve_left hov
            exact kO (b.1 + 1, b.2) (by rw [ps, if_neg hov]; exact psL_out (by show T.length ≤ b.1 + 1; omega)) h' α' b.1 x1 x2 x3 f' q' ar' a6'
        · have hov : ¬ b.2.2.1 = true := by rw [ho]; decide
          have h1 : b.1 + 1 ≤ T.length := hl2
          exact ih (k9 + 1) (b.1 + 1, b.2) hz (aT α' (kG α'.2.2 1 (nI (b.1 + 1)))) x3 (by omega) (ar'.nl h1) kG_s (fun hb => iv'.resolve_left (by rw [hb]; decide)) ho a6' (f'.k fz) (q'.tok fz qz) (fun e he => kE e (by rw [ps, if_neg hov]; exact he)) (fun c hc => kO c (by rw [ps, if_neg hov]; exact hc))
      have lnl : ∀ e, lnS T sec a = .inl e → psL T sec (m + 1) a = .inl e := fun e el => by rw [psL, if_pos hlt, el]
      refine T_start hB ar np f q (fun e sg v hw αw hv fw qw y1 y2 y3 y4 => ?_) (fun b s sg c0 hw αw fw qw ab tb hs y4 => ?_) (fun b s i sg hi c1 eo bi hw αw fw qw ab tb hs y4 => ?_) (fun b s sg c0 c1 hw αw fw qw y1 y3 y4 => ?_)
      · exact flt e v hw αw (lnl e (by rw [ln_sg, sg])) hv fw qw y1 y2 y3 (y4.trans a6)
      · have lo := ls_o sg
        have el : lnS T sec a = .inr (s, b.2) := by rw [ln_sg, sg]; show bdS T sec s b = _; unfold bdS; rw [if_pos c0]
        refine k_rN rfl ?_
        refine w_astore_nN dX0_pass_56 rfl (by decide) ?_
        refine w_aload_nN dX0_pass_57 rfl rfl ?_
        refine w_ifnullN (tgt := 73) dX0_pass_58 (by decide) ?_
        exact aft (s, b.2) hw αw _ el (by show b.2.1 = true ∨ b.2.2.2.2.1 = []; rw [lo.1, lo.2.2]; exact hb0) fw qw (AR.p (p := b.1) ab hs) (by rw [tb.1, uE_end c0]) (y4.trans a6)
      · have lo := ls_o sg
        have bd : bdS T sec s b = (match smS T sec i s b with
            | .inl e => .inl e
            | .inr c => enS T c) := by
          unfold bdS
          rw [if_neg (by rw [c1]; decide), if_pos ⟨c1, by rw [eo, Option.some.injEq]; exact bi⟩, eo]
          rfl
        have lb : lnS T sec a = bdS T sec s b := by rw [ln_sg, sg]
        have hm0 : i = 0 → b.2.2.2.2.1 = [] := fun e0 => by
          have : ¬ b.2.1 = true := fun hb => (bi.mp hb) e0
          rw [lo.2.2]; exact hb0.resolve_left (by rw [← lo.1]; exact this)
        refine k_r rfl ?_
        refine w_astore_n dX0_pass_56 rfl (by decide) ?_
        refine w_aload_n dX0_pass_57 rfl rfl ?_
        refine w_ifnull dX0_pass_58 ?_
        refine w_aload_n dX0_pass_61 rfl rfl ?_
        refine a_g3 (k := 7) rfl qw dX0_pass_62 fX0_45 ?_
        refine w_if_ne (tgt := 73) dX0_pass_65 (by decide) (fun c_65 => absurd c_65 (not_not_intro ab.1)) (fun c_65 => ?_)
        refine w_aload_n dX0_pass_68 rfl rfl ?_
        refine w_aload_n dX0_pass_69 rfl rfl ?_
        refine w_v1 (d2 := 4) (L2 := 91) dX0_pass_70 vX0_89 rfl (qw.1.lt (by decide)) rfl (by decide) (Nat.le_of_ble_eq_true rfl) (by decide) (by decide) ?_
        refine T_st hB hs tb ab hi hm0 fw qw (fun e e9 hv αv fv qv z1 z2 z3 z4 => ?_) (fun c e s9 e9 hv αv fv qv z1 z2 z3 z4 => ?_) (fun c c' s9 e9 hv αv fv qv av9 nv z4 => ?_)
        · refine k_v rfl ?_
          exact L_pf (by omega) (by rw [z1]; exact z2) qv (fun x1 x2 => kE e (lnl e (by rw [lb, bd, e9])) hv αv x1 x2 _ fv qv z1 z2 z3 (z4.trans (y4.trans a6)))
        · refine k_v rfl ?_
          exact L_pf (by omega) (by rw [z1]; exact z2) qv (fun x1 x2 => kE e (lnl e (by rw [lb, bd, s9]; exact e9)) hv αv x1 x2 _ fv qv z1 z2 z3 (z4.trans (y4.trans a6)))
        · refine k_v rfl ?_
          exact aft c' hv αv _ (by rw [lb, bd, s9]; exact e9) (Or.inl (by rw [en_b e9]; exact sm_b s9)) fv qv av9 nv (z4.trans (y4.trans a6))
      · exact flt (1, s) .null hw αw (lnl _ (by rw [ln_sg, sg]; show bdS T sec s b = _; unfold bdS; rw [if_neg c0, if_neg c1])) (Or.inl rfl) fw qw y1 (show ¬ (1 : Int32) = 0 from by decide) y3 (y4.trans a6)
    · have ha : T.length ≤ a.1 := by omega
      have hx := nx_p hp
      have ex : nx T a.1 = T.length := by omega
      have u0 : uC T (nx T a.1) = 0 := uC_0 (Or.inl (bT_out (by omega)))
      have sg0 : lsS T sec a = .inr (a, nx T a.1) := by unfold lsS; rw [if_neg (fun e => by rw [u0] at e; exact absurd e.2 (by decide))]
      refine T_start hB ar np f q (fun e sg v hw αw hv fw qw y1 y2 y3 y4 => ?_) (fun b s sg c0 hw αw fw qw ab tb hs y4 => ?_) (fun b s i sg hi c1 eo bi hw αw fw qw ab tb hs y4 => ?_) (fun b s sg c0 c1 hw αw fw qw y1 y3 y4 => ?_)
      · rw [sg0] at sg; cases sg
      · rw [sg0] at sg; cases sg
        refine k_rN rfl ?_
        refine w_astore_nN dX0_pass_56 rfl (by decide) ?_
        refine w_aload_nN dX0_pass_57 rfl rfl ?_
        refine w_ifnullN (tgt := 73) dX0_pass_58 (by decide) ?_
        exact L_pn (b := (nx T a.1, a.2)) (by omega) (AR.p (p := a.1) ab hs) (by rw [tb.1, uE_end c0]) qw (fun _ x1 x2 => kO a (psL_out ha) hw αw a.1 x1 x2 _ fw qw ab (y4.trans a6)) (fun _ hl2 => absurd hl2 (by show ¬ nx T a.1 < T.length; omega))
      · rw [sg0] at sg; cases sg; rw [u0] at c1; exact absurd c1 (by decide)
      · rw [sg0] at sg; cases sg; exact absurd u0 c0

