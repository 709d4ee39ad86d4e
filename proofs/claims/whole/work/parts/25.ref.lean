/-! THE REFERENCE: run, first, and the faces of its machine -/
noncomputable def mgoS : Nat → MS → Nat → MS × Nat
  | 0, τ, n => (τ, n)
  | m + 1, τ, n => if τ.1 12 = 1 then (τ, n) else if (mstp (sG τ 12 0)).1 12 = 2 then (mstp (sG τ 12 0), n + 1) else mgoS m (mstp (sG τ 12 0)) (n + 1)
set_option maxRecDepth 20000 in
set_option maxHeartbeats 4000000 in
theorem L_mr1 {X : Nat × (Nat → Int32)} {h9 h : PH} {τ : MS} {Q : Option Value → PH → Prop} {mo : Int32} {n : Nat} (hs2 : τ.1 12 = 2) (f : FR (sI h9 25 0 0) h) (q : RM h τ) (k : ∀ h', FR (sI h9 25 0 0) h' → RM h' τ → Q (some (.int (nI n))) h') : WP X mX11_run 7 156 24 [some (.ref 25), some (.int mo), some (.int (nI n)), some (.int 1)] [] h Q := by
  refine w_aload_n dX11_run_24 rfl rfl ?_
  refine w_gi q.1 dX11_run_25 fX11_60 rfl rfl (by decide) ?_
  refine w_if_ne (tgt := 77) dX11_run_28 (by decide) (fun c_28 => absurd c_28 (not_not_intro f.thr)) (fun c_28 => ?_)
  refine w_iload_n dX11_run_31 rfl rfl ?_
  refine w_iload_n dX11_run_32 rfl rfl ?_
  refine w_icmp_ge (tgt := 77) dX11_run_33 (by decide) (fun c_33 => ?_) (fun c_33 => ?_)
  · refine w_iload_n dX11_run_77 rfl rfl ?_
    refine w_iret dX11_run_78 (fun _ e => by cases e; rfl) ?_
    exact k _ f q
  · refine w_aload_n dX11_run_36 rfl rfl ?_
    refine y_get (j := 12) q dX11_run_37 fX11_74 (by decide) rfl ?_
    refine w_iconst dX11_run_40 (v := 1) (by decide) ?_
    refine w_icmp_eq (tgt := 77) dX11_run_41 (by decide) (fun c_41 => ?_) (fun c_41 => ?_)
    · refine w_iload_n dX11_run_77 rfl rfl ?_
      refine w_iret dX11_run_78 (fun _ e => by cases e; rfl) ?_
      exact k _ f q
    · refine w_iload_n dX11_run_44 rfl rfl ?_
      refine w_if_ne (tgt := 77) dX11_run_45 (by decide) (fun c_45 => ?_) (fun c_45 => absurd c_45 (by decide))
      refine w_iload_n dX11_run_77 rfl rfl ?_
      refine w_iret dX11_run_78 (fun _ e => by cases e; rfl) ?_
      exact k _ f q

set_option maxRecDepth 20000 in
set_option maxHeartbeats 4000000 in
theorem L_mrun {X : Nat × (Nat → Int32)} {h9 : PH} {Q : Option Value → PH → Prop} {mo : Nat} {J : MS → Prop} (hJ0 : ∀ t, J t → vp_in (t.1 0) 65536) (hJ1 : ∀ t, J t → J (mstp (sG t 12 0))) (hmo : mo ≤ 20000) : ∀ (m n : Nat) (h : PH) (τ : MS), n + m = mo → J τ → FR (sI h9 25 0 0) h → RM h τ → (∀ h', FR (sI h9 25 0 0) h' → RM h' (mgoS m τ n).1 → Q (some (.int (nI (mgoS m τ n).2))) h') → WP X mX11_run 7 156 24 [some (.ref 25), some (.int (nI mo)), some (.int (nI n)), some (.int 0)] [] h Q := by
  intro m
  induction m with
  | zero =>
    intro n h τ hn j f q k
    obtain rfl : n = mo := by omega
    refine w_aload_n dX11_run_24 rfl rfl ?_
    refine w_gi q.1 dX11_run_25 fX11_60 rfl rfl (by decide) ?_
    refine w_if_ne (tgt := 77) dX11_run_28 (by decide) (fun c_28 => absurd c_28 (not_not_intro f.thr)) (fun c_28 => ?_)
    refine w_iload_n dX11_run_31 rfl rfl ?_
    refine w_iload_n dX11_run_32 rfl rfl ?_
    refine w_icmp_ge (tgt := 77) dX11_run_33 (by decide) (fun c_33 => ?_) (fun c_33 => absurd c_33 (not_not_intro (nI_le (Nat.le_refl n) (by omega))))
    refine w_iload_n dX11_run_77 rfl rfl ?_
    refine w_iret dX11_run_78 (fun _ e => by cases e; rfl) ?_
    exact k _ f q
  | succ m ih =>
    intro n h τ hn j f q k
    refine w_aload_n dX11_run_24 rfl rfl ?_
    refine w_gi q.1 dX11_run_25 fX11_60 rfl rfl (by decide) ?_
    refine w_if_ne (tgt := 77) dX11_run_28 (by decide) (fun c_28 => absurd c_28 (not_not_intro f.thr)) (fun c_28 => ?_)
    refine w_iload_n dX11_run_31 rfl rfl ?_
    refine w_iload_n dX11_run_32 rfl rfl ?_
    refine w_icmp_ge (tgt := 77) dX11_run_33 (by decide) (fun c_33 => absurd c_33 (nI_ge (by omega) (by omega))) (fun c_33 => ?_)
    refine w_aload_n dX11_run_36 rfl rfl ?_
    refine y_get (j := 12) q dX11_run_37 fX11_74 (by decide) rfl ?_
    refine w_iconst dX11_run_40 (v := 1) (by decide) ?_
    refine w_icmp_eq (tgt := 77) dX11_run_41 (by decide) (fun c_41 => ?_) (fun c_41 => ?_)
    · refine w_iload_n dX11_run_77 rfl rfl ?_
      refine w_iret dX11_run_78 (fun _ e => by cases e; rfl) ?_
      rw [mgoS] at k; simp only [if_pos c_28, if_neg c_33, if_pos c_41] at k; exact k _ f q
    · refine w_iload_n dX11_run_44 rfl rfl ?_
      refine w_if_ne (tgt := 77) dX11_run_45 (by decide) (fun c_45 => absurd c_45 (by decide)) (fun c_45 => ?_)
      refine w_aload_n dX11_run_48 rfl rfl ?_
      refine w_iconst dX11_run_49 (v := 0) (by decide) ?_
      refine y_put (j := 12) f q dX11_run_50 fX11_74 (by decide) rfl (fun h1 f1 q1 => ?_)
      refine w_aload_n dX11_run_53 rfl rfl ?_
      refine w_v0 (d2 := 6) (L2 := 134) dX11_run_54 vX11_181 rfl (q1.1.lt (by decide)) (by decide) (Nat.le_of_ble_eq_true rfl) (by decide) (by decide) ?_
      refine T_mstep (τ := sG τ 12 0) (hJ0 τ j) f1 q1 (fun h2 f2 q2 => ?_)
      refine k_v rfl ?_
      refine w_iinc (v := nI (n + 1)) dX11_run_57 rfl (nI_1 n) (by decide) ?_
      refine w_aload_n dX11_run_60 rfl rfl ?_
      refine y_get (j := 12) q2 dX11_run_61 fX11_74 (by decide) rfl ?_
      refine w_iconst dX11_run_64 (v := 2) (by decide) ?_
      refine w_icmp_ne (tgt := 72) dX11_run_65 (by decide) (fun c_65 => ?_) (fun c_65 => ?_)
      · refine w_iconst dX11_run_72 (v := 0) (by decide) ?_
        refine w_istore_n dX11_run_73 rfl (by decide) ?_
        refine w_goto (tgt := 24) dX11_run_74 (by decide) ?_
        rw [mgoS] at k; simp only [if_pos c_28, if_neg c_33, if_neg c_41, if_pos c_45, if_neg c_65] at k; exact ih (n + 1) _ _ (by omega) (hJ1 τ j) f2 q2 k
      · refine w_iconst dX11_run_68 (v := 1) (by decide) ?_
        refine w_goto (tgt := 73) dX11_run_69 (by decide) ?_
        refine w_istore_n dX11_run_73 rfl (by decide) ?_
        refine w_goto (tgt := 24) dX11_run_74 (by decide) ?_
        rw [mgoS] at k; simp only [if_pos c_28, if_neg c_33, if_neg c_41, if_pos c_45, if_pos c_65] at k; exact L_mr1 c_65 f2 q2 k

set_option maxRecDepth 20000 in
set_option maxHeartbeats 4000000 in
/-- run(most) -/
theorem T_mrun {X : Nat × (Nat → Int32)} {h : PH} {τ : MS} {Q : Option Value → PH → Prop} {mo : Nat} {J : MS → Prop} (hJ0 : ∀ t, J t → vp_in (t.1 0) 65536) (hJ1 : ∀ t, J t → J (mstp (sG t 12 0))) (hmo : mo ≤ 20000) (j : J τ) (q : RM h τ) (k : ∀ h', FR (sI h 25 0 0) h' → RM h' (mgoS mo τ 0).1 → Q (some (.int (nI (mgoS mo τ 0).2))) h') : WP X mX11_run 7 156 0 (en 4 [.ref 25, .int (nI mo)]) [] h Q := by
  refine w_aload_n dX11_run_0 rfl rfl ?_
  refine w_iload_n dX11_run_1 rfl rfl ?_
  refine w_if_lt (tgt := 12) dX11_run_2 (by decide) (fun c_2 => absurd c_2 (show ¬ nI mo < 0 from nI_pos (by omega))) (fun c_2 => ?_)
  refine w_iload_n dX11_run_5 rfl rfl ?_
  refine w_sipush dX11_run_6 (v := 20000) (by decide) ?_
  refine w_icmp_le (tgt := 16) dX11_run_9 (by decide) (fun c_9 => ?_) (fun c_9 => absurd c_9 (not_not_intro (show nI mo ≤ nI 20000 from nI_le hmo (by decide))))
  refine w_iconst dX11_run_16 (v := 0) (by decide) ?_
  refine y_thr q dX11_run_17 fX11_60 (fun f1 q1 => ?_)
  refine w_iconst dX11_run_20 (v := 0) (by decide) ?_
  refine w_istore_n dX11_run_21 rfl (by decide) ?_
  refine w_iconst dX11_run_22 (v := 0) (by decide) ?_
  refine w_istore_n dX11_run_23 rfl (by decide) ?_
  exact L_mrun hJ0 hJ1 hmo mo 0 _ _ (by omega) j f1 q1 k

set_option maxRecDepth 20000 in
set_option maxHeartbeats 4000000 in
/-- run(most), refused -/
theorem T_mrunX {X : Nat × (Nat → Int32)} {h : PH} {τ : MS} {Q : Option Value → PH → Prop} {mo : Int32} (hb : mo < 0 ∨ ¬ mo ≤ 20000) (q : RM h τ) (k : ∀ h', FR (sI h 25 0 1) h' → RM h' τ → Q (some (.int 0)) h') : WP X mX11_run 7 156 0 (en 4 [.ref 25, .int mo]) [] h Q := by
  refine w_aload_n dX11_run_0 rfl rfl ?_
  refine w_iload_n dX11_run_1 rfl rfl ?_
  refine w_if_lt (tgt := 12) dX11_run_2 (by decide) (fun c_2 => ?_) (fun c_2 => ?_)
  · refine w_iconst dX11_run_12 (v := 1) (by decide) ?_
    refine w_goto (tgt := 17) dX11_run_13 (by decide) ?_
    refine y_thr q dX11_run_17 fX11_60 (fun f1 q1 => ?_)
    refine w_iconst dX11_run_20 (v := 0) (by decide) ?_
    refine w_istore_n dX11_run_21 rfl (by decide) ?_
    refine w_iconst dX11_run_22 (v := 0) (by decide) ?_
    refine w_istore_n dX11_run_23 rfl (by decide) ?_
    refine w_aload_n dX11_run_24 rfl rfl ?_
    refine w_gi q1.1 dX11_run_25 fX11_60 rfl rfl (by decide) ?_
    refine w_if_ne (tgt := 77) dX11_run_28 (by decide) (fun c_28 => ?_) (fun c_28 => absurd c_28 (by rw [FR.thr f1]; decide))
    refine w_iload_n dX11_run_77 rfl rfl ?_
    refine w_iret dX11_run_78 (fun _ e => by cases e; rfl) ?_
    exact k _ f1 q1
  · refine w_iload_n dX11_run_5 rfl rfl ?_
    refine w_sipush dX11_run_6 (v := 20000) (by decide) ?_
    refine w_icmp_le (tgt := 16) dX11_run_9 (by decide) (fun c_9 => absurd c_9 (hb.resolve_left c_2)) (fun c_9 => ?_)
    refine w_iconst dX11_run_12 (v := 1) (by decide) ?_
    refine w_goto (tgt := 17) dX11_run_13 (by decide) ?_
    refine y_thr q dX11_run_17 fX11_60 (fun f2 q2 => ?_)
    refine w_iconst dX11_run_20 (v := 0) (by decide) ?_
    refine w_istore_n dX11_run_21 rfl (by decide) ?_
    refine w_iconst dX11_run_22 (v := 0) (by decide) ?_
    refine w_istore_n dX11_run_23 rfl (by decide) ?_
    refine w_aload_n dX11_run_24 rfl rfl ?_
    refine w_gi q2.1 dX11_run_25 fX11_60 rfl rfl (by decide) ?_
    refine w_if_ne (tgt := 77) dX11_run_28 (by decide) (fun c_28 => ?_) (fun c_28 => absurd c_28 (by rw [FR.thr f2]; decide))
    refine w_iload_n dX11_run_77 rfl rfl ?_
    refine w_iret dX11_run_78 (fun _ e => by cases e; rfl) ?_
    exact k _ f2 q2

def mfir (τ : MS) : MS := sK (sG (sG (sG (sG (sG (sG (clL 8 τ 0) 9 32770) 10 12288) 11 65024) 12 0) 14 0) 13 0) []
theorem RM.k0 {h : PH} {τ : MS} (q : RM h τ) : RM (sI h 25 11 0) (sK τ []) := by
  obtain ⟨q1, q2, q3, q4, q5, q6⟩ := q
  refine ⟨q1.i, fun a ha => (rI_a (by decide)).trans (q2 a ha), ⟨rI_s, Nat.zero_le _, fun i w hw => by cases hw⟩, ⟨(rI_k (by decide)).trans q4.1, q4.2.1, fun i w hw => (rI_a (by decide)).trans (q4.2.2 i w hw)⟩, fun x hx => (rI_a (by decide)).trans (q5 x hx), fun r hr => ?_⟩
  rw [rI_k (fm_in hr).1]; exact q6 r hr
set_option maxRecDepth 20000 in
set_option maxHeartbeats 4000000 in
theorem L_fir {X : Nat × (Nat → Int32)} {h0 : PH} {Q : Option Value → PH → Prop} : ∀ (m n : Nat) (h : PH) (τ : MS), n + m = 8 → FR h0 h → RM h τ → (∀ h', FR h0 h' → RM h' (sK (sG (sG (sG (sG (sG (sG (clL m τ n) 9 32770) 10 12288) 11 65024) 12 0) 14 0) 13 0) []) → Q none h') → WP X mX11_first 0 0 2 [some (.ref 25), some (.int (nI n))] [] h Q := by
  intro m
  induction m with
  | zero =>
    intro n h τ hn f q k
    obtain rfl : n = 8 := by omega
    refine w_iload_n dX11_first_2 rfl rfl ?_
    refine w_bipush dX11_first_3 (v := 8) (by decide) ?_
    refine w_icmp_ge (tgt := 21) dX11_first_5 (by decide) (fun c_5 => ?_) (fun c_5 => absurd c_5 (not_not_intro (show (8 : Int32) ≤ nI 8 from by decide)))
    refine w_aload_n dX11_first_21 rfl rfl ?_
    refine w_ldc dX11_first_22 kX11_63 ?_
    refine y_put (j := 9) f q dX11_first_24 fX11_64 (by decide) rfl (fun h1 f1 q1 => ?_)
    refine w_aload_n dX11_first_27 rfl rfl ?_
    refine w_sipush dX11_first_28 (v := 12288) (by decide) ?_
    refine y_put (j := 10) f1 q1 dX11_first_31 fX11_67 (by decide) rfl (fun h2 f2 q2 => ?_)
    refine w_aload_n dX11_first_34 rfl rfl ?_
    refine w_ldc dX11_first_35 kX11_70 ?_
    refine y_put (j := 11) f2 q2 dX11_first_37 fX11_71 (by decide) rfl (fun h3 f3 q3 => ?_)
    refine w_aload_n dX11_first_40 rfl rfl ?_
    refine w_iconst dX11_first_41 (v := 0) (by decide) ?_
    refine y_put (j := 12) f3 q3 dX11_first_42 fX11_74 (by decide) rfl (fun h4 f4 q4 => ?_)
    refine w_aload_n dX11_first_45 rfl rfl ?_
    refine w_iconst dX11_first_46 (v := 0) (by decide) ?_
    refine y_putz (j := 14) f4 q4 dX11_first_47 fX11_77 (by decide) (by decide) rfl (fun h5 f5 q5 => ?_)
    refine w_aload_n dX11_first_50 rfl rfl ?_
    refine w_iconst dX11_first_51 (v := 0) (by decide) ?_
    refine y_put (j := 13) f5 q5 dX11_first_52 fX11_81 (by decide) rfl (fun h6 f6 q6 => ?_)
    refine w_aload_n dX11_first_55 rfl rfl ?_
    refine w_iconst dX11_first_56 (v := 0) (by decide) ?_
    refine w_pi q6.1 dX11_first_57 fX11_84 rfl rfl (by decide) ?_
    refine w_vret dX11_first_60 ?_
    exact k _ (f6.f (by decide)) q6.k0
  | succ m ih =>
    intro n h τ hn f q k
    refine w_iload_n dX11_first_2 rfl rfl ?_
    refine w_bipush dX11_first_3 (v := 8) (by decide) ?_
    refine w_icmp_ge (tgt := 21) dX11_first_5 (by decide) (fun c_5 => absurd c_5 (show ¬ (8 : Int32) ≤ nI n from nI_ge (a := n) (b := 8) (by omega) (by decide))) (fun c_5 => ?_)
    refine w_aload_n dX11_first_8 rfl rfl ?_
    refine w_gs (b := 27) q.1 dX11_first_9 fX11_14 (by decide) rfl rfl (by decide) ?_
    refine w_iload_n dX11_first_12 rfl rfl ?_
    refine w_iconst dX11_first_13 (v := 0) (by decide) ?_
    refine g_put f q dX11_first_14 (nI_clamp (by omega)) (vp_in_nI (by omega) (by decide)) (fun h1 f1 q1 => ?_)
    refine w_iinc (v := nI (n + 1)) dX11_first_15 rfl (nI_1 n) (by decide) ?_
    refine w_goto (tgt := 2) dX11_first_18 (by decide) ?_
    exact ih (n + 1) _ _ (by omega) f1 q1 k

set_option maxRecDepth 20000 in
set_option maxHeartbeats 4000000 in
/-- first() -/
theorem T_mfir {X : Nat × (Nat → Int32)} {h0 h : PH} {τ : MS} {Q : Option Value → PH → Prop} (f : FR h0 h) (q : RM h τ) (k : ∀ h', FR h0 h' → RM h' (mfir τ) → Q none h') : WP X mX11_first 0 0 0 (en 2 [.ref 25]) [] h Q := by
  refine w_iconst dX11_first_0 (v := 0) (by decide) ?_
  refine w_istore_n dX11_first_1 rfl (by decide) ?_
  exact L_fir 8 0 _ _ rfl f q k

