/-! THE REFERENCE's ASSEMBLER: assemble() -/
theorem sm_ge {T : List Int32} {sec : Bool} {i s : Nat} {a b : AS} (hs : s ≤ T.length) (h : smS T sec i s a = .inr b) : s ≤ b.1 ∧ b.1 ≤ T.length := by
  have h1 := uE_ge hs
  have h2 := uE_le hs
  have h3 := nx_p h2
  have h4 := uE_ge h3.2
  have h5 := uE_le h3.2
  unfold smS at h
  split at h
  · split at h
    · split at h
      · cases h
      split at h
      · cases h
      cases h; exact ⟨Nat.le_trans h1 (Nat.le_trans h3.1 h4), h5⟩
    · cases h
  split at h
  · split at h
    · split at h
      · cases h
      split at h
      · cases h
      split at h
      · cases h; exact ⟨Nat.le_trans h1 (Nat.le_trans h3.1 h4), h5⟩
      · cases h
    · cases h
  split at h
  · split at h
    · split at h
      · cases h; exact ⟨Nat.le_trans h1 (Nat.le_trans h3.1 h4), h5⟩
      · cases h
    · cases h
  split at h
  · cases h; exact ⟨h1, h2⟩
  split at h
  · split at h
    · cases h
    · rename_i r e
      cases h
      have := shS_le _ _ _ r h2 e
      exact ⟨Nat.le_trans h1 this.1, this.2⟩
  · cases h
theorem bd_ge {T : List Int32} {sec : Bool} {s : Nat} {a b : AS} (hs : s ≤ T.length) (h : bdS T sec s a = .inr b) : s ≤ b.1 := by
  unfold bdS at h
  split at h
  · cases h; exact Nat.le_refl _
  split at h
  · split at h
    · cases h
    · rename_i c e
      have g := sm_ge hs e
      unfold enS at h
      split at h
      · cases h; exact Nat.le_trans g.1 (nx_p g.2).1
      · cases h
  · cases h
theorem ln_ge {T : List Int32} {sec : Bool} {a b : AS} (ha : a.1 ≤ T.length) (h : lnS T sec a = .inr b) : a.1 ≤ b.1 := by
  have h1 := nx_p ha
  unfold lnS at h
  split at h
  · split at h
    · cases h
    · rename_i c e
      have e1 := te_p e
      have h2 := uE_ge h1.2
      have h3 := uE_le h1.2
      have h4 := nx_p (show c.1 ≤ T.length by omega)
      have := bd_ge h4.2 h
      omega
  · have := bd_ge h1.2 h; omega
theorem bd_iv {T : List Int32} {sec : Bool} {s : Nat} {a b : AS} (h : bdS T sec s a = .inr b) (iv : a.2.1 = false → a.2.2.2.2.1 = []) : b.2.1 = false → b.2.2.2.2.1 = [] := by
  unfold bdS at h
  split at h
  · cases h; exact iv
  split at h
  · split at h
    · cases h
    · rename_i c e
      intro hf
      rw [en_b h, sm_b e] at hf; cases hf
  · cases h
theorem ln_iv {T : List Int32} {sec : Bool} {a b : AS} (h : lnS T sec a = .inr b) (iv : a.2.1 = false → a.2.2.2.2.1 = []) : b.2.1 = false → b.2.2.2.2.1 = [] := by
  unfold lnS at h
  split at h
  · split at h
    · cases h
    · rename_i c e
      have lo := te_o e
      exact bd_iv h (by rw [lo.1, lo.2.2]; exact iv)
  · exact bd_iv h iv
set_option maxRecDepth 20000 in
set_option maxHeartbeats 4000000 in
theorem L_mps {X : Nat × (Nat → Int32)} {h0 : PH} {Q : Option Value → PH → Prop} {T : List Int32} {sec : Bool} (hB : Byt T) (hT : T.length ≤ 4000) : ∀ (m : Nat) (a : AS) (h : PH) (ψ : Nat → Nat → Int32), T.length < a.1 + m → MA T sec a ψ → ψ 25 40 = nI a.1 → (a.2.1 = false → a.2.2.2.2.1 = []) → a.2.2.1 = false → Fu h0 h → RU h T ψ → (∀ h' φ, Fu h0 h' → RU h' T φ → UB ψ φ → ∀ e, psL T sec m a = .inl e → φ 25 28 = e.1 → φ 25 29 = nI e.2 → WP X mX11_pass 11 243 62 [some (.ref 25), some (.int 0)] [] h' Q) → (∀ h' φ, Fu h0 h' → RU h' T φ → UB ψ φ → ∀ b p, psL T sec m a = .inr b → MA T sec (p, b.2) φ → WP X mX11_pass 11 243 62 [some (.ref 25), some (.int 1)] [] h' Q) → WP X mX11_pass 11 243 22 [some (.ref 25), some (.int 1)] [] h Q := by
  intro m
  induction m with
  | zero =>
    intro a h ψ hm ma
    exact absurd ma.2.2.2.2.2.2.2.2 (by omega)
  | succ m ih =>
    intro a h ψ hm ma np iv ov f q kF kO
    have hp := ma.2.2.2.2.2.2.2.2
    refine w_iload_n dX11_pass_22 rfl rfl ?_
    refine w_if_eq (tgt := 62) dX11_pass_23 (by decide) (fun c_23 => absurd c_23 (by decide)) (fun c_23 => ?_)
    refine w_aload_n dX11_pass_26 rfl rfl ?_
    refine u_get (k := 50) (by decide) q dX11_pass_27 fX11_292 ?_
    refine w_if_ne (tgt := 62) dX11_pass_30 (by decide) (fun c_30 => absurd c_30 (not_not_intro (by rw [ma.2.1.2, ov]; rfl))) (fun c_30 => ?_)
    refine w_aload_n dX11_pass_33 rfl rfl ?_
    refine u_get (k := 40) (by decide) q dX11_pass_34 fX11_202 ?_
    refine w_aload_n dX11_pass_37 rfl rfl ?_
    refine u_get (k := 39) (by decide) q dX11_pass_38 fX11_190 ?_
    refine w_icmp_ge (tgt := 62) dX11_pass_41 (by decide) (fun c_41 => ?_) (fun c_41 => ?_)
    · rw [np, q.2.2.1, nI_leI (by omega) (by omega)] at c_41
      exact kO _ _ f q UB.rf a a.1 (psL_out c_41) ma
    · rw [np, q.2.2.1, nI_leI (by omega) (by omega)] at c_41
      refine w_aload_n dX11_pass_44 rfl rfl ?_
      refine w_v0 (d2 := 10) (L2 := 221) dX11_pass_45 vX11_295 rfl (q.1.lt (by decide)) (by decide) (Nat.le_of_ble_eq_true rfl) (by decide) (by decide) ?_
      have hlt : a.1 < T.length := by omega
      refine T_line hB ma np iv ov f q (fun e e9 hz φz fz qz z1 z2 z3 => ?_) (fun b e9 hz φz fz qz z1 z2 z3 => ?_)
      · refine k_i rfl ?_
        refine w_istore_n dX11_pass_48 rfl (by decide) ?_
        refine w_aload_n dX11_pass_49 rfl rfl ?_
        refine w_dup dX11_pass_50 rfl ?_
        refine u_get (k := 40) (by decide) qz dX11_pass_51 fX11_202 ?_
        refine w_iconst dX11_pass_54 (v := 1) (by decide) ?_
        refine w_iadd dX11_pass_55 ?_
        refine u_put (k := 40) (by decide) fz qz dX11_pass_56 fX11_202 (fun h1 f1 q1 => ?_)
        refine w_goto (tgt := 22) dX11_pass_59 (by decide) ?_
        refine w_iload_n dX11_pass_22 rfl rfl ?_
        refine w_if_eq (tgt := 62) dX11_pass_23 (by decide) (fun c_23 => ?_) (fun c_23 => absurd c_23 (by decide))
        exact kF _ _ f1 q1 (z1.p (by decide)) e (by rw [psL, if_pos hlt, e9]) ((uP_k (by decide)).trans z2) ((uP_k (by decide)).trans z3)
      · refine k_i rfl ?_
        refine w_istore_n dX11_pass_48 rfl (by decide) ?_
        refine w_aload_n dX11_pass_49 rfl rfl ?_
        refine w_dup dX11_pass_50 rfl ?_
        refine u_get (k := 40) (by decide) qz dX11_pass_51 fX11_202 ?_
        refine w_iconst dX11_pass_54 (v := 1) (by decide) ?_
        refine w_iadd dX11_pass_55 ?_
        refine u_put (k := 40) (by decide) fz qz dX11_pass_56 fX11_202 (fun h1 f1 q1 => ?_)
        refine w_goto (tgt := 22) dX11_pass_59 (by decide) ?_
        rw [z3, nI_1] at q1
        have ps : psL T sec (m + 1) a = if b.2.2.1 = true then .inr b else psL T sec m (b.1 + 1, b.2) := by rw [psL, if_pos hlt, e9]
        have mz : MA T sec b (uP φz 25 40 (nI (b.1 + 1))) := z2.uv (UV.rf.p (Or.inl (by decide)))
        have bge := ln_ge hp e9
        have bl : b.1 ≤ T.length := z2.2.2.2.2.2.2.2.2
        by_cases hov : b.2.2.1 = true
        · refine w_iload_n dX11_pass_22 rfl rfl ?_
          refine w_if_eq (tgt := 62) dX11_pass_23 (by decide) (fun c_23 => absurd c_23 (by decide)) (fun c_23 => ?_)
          refine w_aload_n dX11_pass_26 rfl rfl ?_
          refine u_get (k := 50) (by decide) q1 dX11_pass_27 fX11_292 ?_
          refine w_if_ne (tgt := 62) dX11_pass_30 (by decide) (fun c_30 => ?_) (fun c_30 => absurd c_30 (by rw [mz.2.1.2, hov]; decide))
          exact kO _ _ f1 q1 (z1.p (by decide)) b b.1 (by rw [ps, if_pos hov]) mz
        have hof : b.2.2.1 = false := by
          cases hh : b.2.2.1
          · rfl
          · exact absurd hh hov
        by_cases hbl : b.1 < T.length
        · exact ih (b.1 + 1, b.2) _ _ (by show T.length < b.1 + 1 + m; omega) (MA.p (p := b.1) mz (by show b.1 + 1 ≤ T.length; omega)) uP_s (show b.2.1 = false → b.2.2.2.2.1 = [] from ln_iv e9 iv) hof f1 q1 (fun h9 φ9 f9 q9 u9 e he => kF h9 φ9 f9 q9 ((z1.p (by decide)).tr u9) e (by rw [ps, if_neg hov]; exact he)) (fun h9 φ9 f9 q9 u9 c p he => kO h9 φ9 f9 q9 ((z1.p (by decide)).tr u9) c p (by rw [ps, if_neg hov]; exact he))
        · refine w_iload_n dX11_pass_22 rfl rfl ?_
          refine w_if_eq (tgt := 62) dX11_pass_23 (by decide) (fun c_23 => absurd c_23 (by decide)) (fun c_23 => ?_)
          refine w_aload_n dX11_pass_26 rfl rfl ?_
          refine u_get (k := 50) (by decide) q1 dX11_pass_27 fX11_292 ?_
          refine w_if_ne (tgt := 62) dX11_pass_30 (by decide) (fun c_30 => absurd c_30 (not_not_intro (by rw [mz.2.1.2, hof]; rfl))) (fun c_30 => ?_)
          refine w_aload_n dX11_pass_33 rfl rfl ?_
          refine u_get (k := 40) (by decide) q1 dX11_pass_34 fX11_202 ?_
          refine w_aload_n dX11_pass_37 rfl rfl ?_
          refine u_get (k := 39) (by decide) q1 dX11_pass_38 fX11_190 ?_
          refine w_icmp_ge (tgt := 62) dX11_pass_41 (by decide) (fun c_41 => ?_) (fun c_41 => absurd c_41 (not_not_intro (by rw [uP_s, q1.2.2.1]; exact nI_le (by omega) (by omega))))
          exact kO _ _ f1 q1 (z1.p (by decide)) (b.1 + 1, b.2) b.1 (by rw [ps, if_neg hov]; exact psL_out (by show T.length ≤ b.1 + 1; omega)) mz

theorem MA.start {T : List Int32} {sec : Bool} {l : List (Nat × Nat)} {ψ : Nat → Nat → Int32} (e47 : ψ 25 47 = b01 sec) (ml : ML T l ψ) (e8 : ψ 25 28 = 0 ∧ ψ 25 29 = -1) : MA T sec (0, false, false, 0, [], l) (uP (uP (uP (uP ψ 25 40 0) 25 31 0) 25 49 0) 25 50 0) := by
  have c25 : ∀ k, k ≠ 40 → k ≠ 31 → k ≠ 49 → k ≠ 50 → uP (uP (uP (uP ψ 25 40 0) 25 31 0) 25 49 0) 25 50 0 25 k = ψ 25 k := fun k g1 g2 g3 g4 => (uP_k g4).trans ((uP_k g3).trans ((uP_k g2).trans (uP_k g1)))
  have cc : ∀ c k, c ≠ 25 → uP (uP (uP (uP ψ 25 40 0) 25 31 0) 25 49 0) 25 50 0 c k = ψ c k := fun c k g => (uP_c g).trans ((uP_c g).trans ((uP_c g).trans (uP_c g)))
  refine ⟨(c25 47 (by decide) (by decide) (by decide) (by decide)).trans e47, ⟨(uP_k (by decide)).trans uP_s, uP_s⟩, ⟨(uP_k (by decide)).trans ((uP_k (by decide)).trans uP_s), show 0 ≤ 4096 from by decide⟩, (fun hb => by cases hb), ⟨show 0 ≤ 65535 from by decide, show 0 + 0 ≤ 65536 from by decide⟩, (fun hs i v hv => by cases hv), ⟨(c25 36 (by decide) (by decide) (by decide) (by decide)).trans ml.1, ml.2.1, fun i hi => ⟨(cc 34 i (by decide)).trans (ml.2.2 i hi).1, (cc 35 i (by decide)).trans (ml.2.2 i hi).2.1, (cc 36 i (by decide)).trans (ml.2.2 i hi).2.2.1, (ml.2.2 i hi).2.2.2⟩⟩, ⟨(c25 28 (by decide) (by decide) (by decide) (by decide)).trans e8.1, (c25 29 (by decide) (by decide) (by decide) (by decide)).trans e8.2⟩, Nat.zero_le _⟩
set_option maxRecDepth 20000 in
set_option maxHeartbeats 4000000 in
/-- pass() -/
theorem T_mpass {X : Nat × (Nat → Int32)} {h0 h : PH} {Q : Option Value → PH → Prop} {T : List Int32} {ψ : Nat → Nat → Int32} {sec : Bool} {l : List (Nat × Nat)} (hB : Byt T) (e47 : ψ 25 47 = b01 sec) (ml : ML T l ψ) (e8 : ψ 25 28 = 0 ∧ ψ 25 29 = -1) (f : Fu h0 h) (q : RU h T ψ) (kF : ∀ e, psS T sec l = .inl e → RF h0 T ψ Q e.1 e.2) (kG : ∀ b p, psS T sec l = .inr b → ∀ h' φ, Fu h0 h' → RU h' T φ → UB ψ φ → MA T sec (p, b.2) φ → Q (some (.int 1)) h') : WP X mX11_pass 11 243 0 (en 2 [.ref 25]) [] h Q := by
  refine w_aload_n dX11_pass_0 rfl rfl ?_
  refine w_iconst dX11_pass_1 (v := 0) (by decide) ?_
  refine u_put (k := 40) (by decide) f q dX11_pass_2 fX11_202 (fun h1 f1 q1 => ?_)
  refine w_aload_n dX11_pass_5 rfl rfl ?_
  refine w_iconst dX11_pass_6 (v := 0) (by decide) ?_
  refine u_put (k := 31) (by decide) f1 q1 dX11_pass_7 fX11_280 (fun h2 f2 q2 => ?_)
  refine w_aload_n dX11_pass_10 rfl rfl ?_
  refine w_iconst dX11_pass_11 (v := 0) (by decide) ?_
  refine u_putz (k := 49) (by decide) (by decide) f2 q2 dX11_pass_12 fX11_289 (fun h3 f3 q3 => ?_)
  refine w_aload_n dX11_pass_15 rfl rfl ?_
  refine w_iconst dX11_pass_16 (v := 0) (by decide) ?_
  refine u_putz (k := 50) (by decide) (by decide) f3 q3 dX11_pass_17 fX11_292 (fun h4 f4 q4 => ?_)
  refine w_iconst dX11_pass_20 (v := 1) (by decide) ?_
  refine w_istore_n dX11_pass_21 rfl (by decide) ?_
  have hT := q.2.1.1
  have ub0 : UB ψ (uP (uP (uP (uP ψ 25 40 0) 25 31 0) 25 49 0) 25 50 0) := (((UB.rf.p (by decide)).p (by decide)).p (by decide)).p (by decide)
  refine L_mps hB hT (T.length + 1) (0, false, false, 0, [], l) _ _ (by show T.length < 0 + (T.length + 1); omega) (MA.start e47 ml e8) ((uP_k (by decide)).trans ((uP_k (by decide)).trans ((uP_k (by decide)).trans uP_s))) (fun _ => rfl) rfl f4 q4 (fun hw φw fw qw uw e he y2 y3 => ?_) (fun hw φw fw qw uw b p he mw => ?_)
  · refine w_iload_n dX11_pass_62 rfl rfl ?_
    refine w_if_eq (tgt := 83) dX11_pass_63 (by decide) (fun c_63 => ?_) (fun c_63 => absurd c_63 (by decide))
    refine w_iload_n dX11_pass_83 rfl rfl ?_
    refine w_iret dX11_pass_84 (fun _ e => by cases e; decide) ?_
    exact kF e (by unfold psS; rw [he]) _ _ fw qw (ub0.tr uw) y2 y3
  · refine w_iload_n dX11_pass_62 rfl rfl ?_
    refine w_if_eq (tgt := 83) dX11_pass_63 (by decide) (fun c_63 => absurd c_63 (by decide)) (fun c_63 => ?_)
    refine w_aload_n dX11_pass_66 rfl rfl ?_
    refine u_get (k := 49) (by decide) qw dX11_pass_67 fX11_289 ?_
    refine w_if_ne (tgt := 83) dX11_pass_70 (by decide) (fun c_70 => ?_) (fun c_70 => ?_)
    · rw [mw.2.1.1] at c_70
      refine w_iload_n dX11_pass_83 rfl rfl ?_
      refine w_iret dX11_pass_84 (fun _ e => by cases e; decide) ?_
      exact kG b p (by unfold psS; rw [he]; exact if_pos (b01_1 c_70)) _ _ fw qw (ub0.tr uw) mw
    · rw [mw.2.1.1] at c_70
      refine w_aload_n dX11_pass_73 rfl rfl ?_
      refine w_iconst dX11_pass_74 (v := 1) (by decide) ?_
      refine w_aload_n dX11_pass_75 rfl rfl ?_
      refine u_get (k := 39) (by decide) qw dX11_pass_76 fX11_190 ?_
      refine w_v2 (d2 := 0) (L2 := 0) dX11_pass_79 vX11_258 rfl (qw.1.lt (by decide)) rfl rfl (by decide) (Nat.le_of_ble_eq_true rfl) (by decide) (by decide) ?_
      rw [qw.2.2.1]
      refine T_wrong fw qw (fun hz fz qz => ?_)
      refine k_i rfl ?_
      refine w_iret dX11_pass_82 (fun _ e => by cases e; decide) ?_
      exact rf1 (kF (1, T.length) (by unfold psS; rw [he]; exact if_neg (by rw [b01_f c_70]; decide))) (ub0.tr uw) _ fz qz

