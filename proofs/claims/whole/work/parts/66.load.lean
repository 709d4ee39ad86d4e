/-! load() of the reference -/
set_option maxRecDepth 20000 in
set_option maxHeartbeats 4000000 in
theorem L_mld {X : Nat × (Nat → Int32)} {h0 : PH} {Q : Option Value → PH → Prop} {κ : KE} (mk : MK h0 κ) (ho : κ.2.2.2.2.2 + κ.2.2.2.1.length ≤ 65536) : ∀ (m i : Nat) (h : PH) (τ : MS), i + m = κ.2.2.2.1.length → FR h0 h → RM h τ → (∀ h', FR h0 h' → RM h' (ldS τ (κ.2.2.2.2.2 + i) (κ.2.2.2.1.drop i)) → Q (some (.int 1)) h') → WP X mX11_load 1 21 28 [some (.ref 25), some (.int (nI i))] [] h Q := by
  have hl := mk.2.2.2.1.2
  intro m
  induction m with
  | zero =>
    intro i h τ hi f q k
    rw [List.drop_eq_nil_of_le (by omega)] at k
    have z3 : hI h 25 23 = nI κ.2.2.2.1.length := (f.2 23 (Or.inr (by decide))).trans mk.2.2.2.1.1
    refine w_iload_n dX11_load_28 rfl rfl ?_
    refine w_aload_n dX11_load_29 rfl rfl ?_
    refine w_gi q.1 dX11_load_30 fX11_283 rfl rfl (by decide) ?_
    refine w_icmp_ge (tgt := 59) dX11_load_33 (by decide) (fun c_33 => ?_) (fun c_33 => absurd c_33 (not_not_intro (by rw [z3]; exact nI_le (by omega) (by omega))))
    refine w_iconst dX11_load_59 (v := 1) (by decide) ?_
    refine w_iret dX11_load_60 (fun _ e => by cases e; decide) ?_
    exact k _ f q
  | succ m ih =>
    intro i h τ hi f q k
    have hil : i < κ.2.2.2.1.length := by omega
    have hv : κ.2.2.2.1[i]? = some κ.2.2.2.1[i] := List.getElem?_eq_getElem hil
    have z3 : hI h 25 23 = nI κ.2.2.2.1.length := (f.2 23 (Or.inr (by decide))).trans mk.2.2.2.1.1
    have z4 : hI h 25 24 = nI κ.2.2.2.2.2 := (f.2 24 (Or.inr (by decide))).trans mk.2.2.2.2.2.2.2
    have zw : hI h 31 i = κ.2.2.2.1[i] := (congrFun (f.1.I (by decide)) i).trans (mk.2.2.2.2.1 i _ hv)
    refine w_iload_n dX11_load_28 rfl rfl ?_
    refine w_aload_n dX11_load_29 rfl rfl ?_
    refine w_gi q.1 dX11_load_30 fX11_283 rfl rfl (by decide) ?_
    refine w_icmp_ge (tgt := 59) dX11_load_33 (by decide) (fun c_33 => absurd c_33 (by rw [z3]; exact nI_ge (by omega) (by omega))) (fun c_33 => ?_)
    refine w_aload_n dX11_load_36 rfl rfl ?_
    refine w_gs (b := 26) q.1 dX11_load_37 fX11_8 (by decide) rfl rfl (by decide) ?_
    refine w_aload_n dX11_load_40 rfl rfl ?_
    refine w_gi q.1 dX11_load_41 fX11_277 rfl rfl (by decide) ?_
    refine w_iload_n dX11_load_44 rfl rfl ?_
    refine w_iadd dX11_load_45 ?_
    refine w_aload_n dX11_load_46 rfl rfl ?_
    refine w_gs (b := 31) q.1 dX11_load_47 fX11_26 (by decide) rfl rfl (by decide) ?_
    refine w_iload_n dX11_load_50 rfl rfl ?_
    refine w_iaload dX11_load_51 rfl (q.1.lt (by decide)) (vp_in_nI (show i < 4096 by omega) (by decide)) ?_
    refine e_put f q dX11_load_52 (by rw [z4, nI_add]; exact vp_in_nI (show κ.2.2.2.2.2 + i < 65536 by omega) (by decide)) (fun h1 f1 q1 => ?_)
    refine w_iinc (v := (nI (i + 1))) dX11_load_53 rfl (nI_1 i) (by decide) ?_
    refine w_goto (tgt := 28) dX11_load_56 (by decide) ?_
    rw [z4, nI_add, nI_clamp (by omega), nI_clamp (by omega), zw] at q1
    exact ih (i + 1) _ _ (by omega) f1 q1 (fun h9 f9 q9 => k h9 f9 (by rw [dr_s hv, ldS]; exact q9))

set_option maxRecDepth 20000 in
set_option maxHeartbeats 4000000 in
theorem T_mload {X : Nat × (Nat → Int32)} {h : PH} {Q : Option Value → PH → Prop} {κ : KE} {τ : MS} (mk : MK h κ) (ho : κ.2.2.2.2.2 + κ.2.2.2.1.length ≤ 65536) (q : RM h τ) (k0 : κ.1 = 0 → ∀ h', FR (sI h 25 0 0) h' → RM h' τ → Q (some (.int 0)) h') (k : ¬ κ.1 = 0 → ∀ h', FR (sI h 25 0 0) h' → RM h' (ldS (sG (mfir τ) 8 (nI κ.2.2.2.2.2)) κ.2.2.2.2.2 κ.2.2.2.1) → Q (some (.int 1)) h') : WP X mX11_load 1 21 0 (en 2 [.ref 25]) [] h Q := by
  have mk1 : MK (sI h 25 0 0) κ := by
    obtain ⟨m1, m2, m3, m4, m5, m6, m7, m8⟩ := mk
    exact ⟨(rI_k (by decide)).trans m1, (rI_k (by decide)).trans m2, (rI_k (by decide)).trans m3, ⟨(rI_k (by decide)).trans m4.1, m4.2⟩, fun i v hv => (rI_a (by decide)).trans (m5 i v hv), ⟨(rI_k (by decide)).trans m6.1, m6.2⟩, fun i v hv => (rI_a (by decide)).trans (m7 i v hv), (rI_k (by decide)).trans m8⟩
  refine w_aload_n dX11_load_0 rfl rfl ?_
  refine w_iconst dX11_load_1 (v := 0) (by decide) ?_
  refine y_thr q dX11_load_2 fX11_60 (fun f1 q1 => ?_)
  refine w_aload_n dX11_load_5 rfl rfl ?_
  refine w_gi q1.1 dX11_load_6 fX11_271 rfl rfl (by decide) ?_
  refine w_if_ne (tgt := 14) dX11_load_9 (by decide) (fun c_9 => ?_) (fun c_9 => ?_)
  · rw [mk1.1] at c_9
    refine w_aload_n dX11_load_14 rfl rfl ?_
    refine w_v0 (d2 := 0) (L2 := 0) dX11_load_15 vX11_54 rfl (q1.1.lt (by decide)) (by decide) (Nat.le_of_ble_eq_true rfl) (by decide) (by decide) ?_
    refine T_mfir f1 q1 (fun ha fa qa => ?_)
    refine k_v rfl ?_
    refine w_aload_n dX11_load_18 rfl rfl ?_
    refine w_aload_n dX11_load_19 rfl rfl ?_
    refine w_gi qa.1 dX11_load_20 fX11_277 rfl rfl (by decide) ?_
    refine y_put (j := 8) fa qa dX11_load_23 fX11_57 (by decide) rfl (fun h2 f2 q2 => ?_)
    refine w_iconst dX11_load_26 (v := 0) (by decide) ?_
    refine w_istore_n dX11_load_27 rfl (by decide) ?_
    rw [show hI ha 25 24 = nI κ.2.2.2.2.2 from (fa.2 24 (Or.inr (by decide))).trans mk1.2.2.2.2.2.2.2] at q2
    exact L_mld mk1 ho κ.2.2.2.1.length 0 _ _ (by omega) f2 q2 (fun h9 f9 q9 => k c_9 h9 f9 (by rw [Nat.add_zero, List.drop_zero] at q9; exact q9))
  · rw [mk1.1] at c_9
    refine w_iconst dX11_load_12 (v := 0) (by decide) ?_
    refine w_iret dX11_load_13 (fun _ e => by cases e; decide) ?_
    exact k0 c_9 _ f1 q1

