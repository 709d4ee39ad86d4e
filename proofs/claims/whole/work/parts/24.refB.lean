/-! THE REFERENCE: step, run -/
noncomputable def mbod (t : MS) : MS := if (sG (mrd (sG t 21 0) ((sG t 21 0).1 8)) 8 ((mrd (sG t 21 0) ((sG t 21 0).1 8)).1 8 + 1 &&& 65535)).1 21 = 0 then
    (if (mds (sG (mrd (sG t 21 0) ((sG t 21 0).1 8)) 8 ((mrd (sG t 21 0) ((sG t 21 0).1 8)).1 8 + 1 &&& 65535)) (mrv (sG t 21 0) ((sG t 21 0).1 8)) ((sG t 21 0).1 8)).1 21 = 0 then mds (sG (mrd (sG t 21 0) ((sG t 21 0).1 8)) 8 ((mrd (sG t 21 0) ((sG t 21 0).1 8)).1 8 + 1 &&& 65535)) (mrv (sG t 21 0) ((sG t 21 0).1 8)) ((sG t 21 0).1 8)
      else mex (mds (sG (mrd (sG t 21 0) ((sG t 21 0).1 8)) 8 ((mrd (sG t 21 0) ((sG t 21 0).1 8)).1 8 + 1 &&& 65535)) (mrv (sG t 21 0) ((sG t 21 0).1 8)) ((sG t 21 0).1 8)) 2)
  else mex (sG (mrd (sG t 21 0) ((sG t 21 0).1 8)) 8 ((mrd (sG t 21 0) ((sG t 21 0).1 8)).1 8 + 1 &&& 65535)) 2
def mir3 (t : MS) : MS := sG (mgt t 384) 8 (mlk t (384 &&& 65535))
def mir2 (t : MS) : MS := sG t 9 (t.1 9 &&& 63743 ||| 1024)
def mirq (t : MS) : MS := mir3 (mir2 (mgo (sG t 17 (t.1 17 + 1))))
noncomputable def mstq (t : MS) : MS := if t.1 14 = 0 then mbod t else if t.2.2.1 = [] then mbod t else if 4 ≤ t.1 9 >>> ((8 : Int32) &&& 31) &&& 7 then mbod t else mirq t
noncomputable def mstp (τ : MS) : MS := mstq (sG τ 16 (τ.1 16 + 1))
theorem mrd_0 (τ : MS) (p : Int32) : (mrd τ p).1 0 = τ.1 0 := by
  unfold mrd
  split
  · unfold mgt
    split
    · split
      · rfl
      · rfl
    · rfl
  · rfl
theorem h0_st {t : MS} {p v : Int32} (h : vp_in (t.1 0) 65536) : vp_in ((sG (mrd (sG t 21 0) p) 8 v).1 0) 65536 := by
  rw [sG_o (by decide), mrd_0]; exact h
theorem RM.thr {h : PH} {τ : MS} {v : Int32} (q : RM h τ) : RM (sI h 25 0 v) τ := by
  obtain ⟨q1, q2, q3, q4, q5, q6⟩ := q
  refine ⟨q1.i, fun a ha => (rI_a (by decide)).trans (q2 a ha), ⟨(rI_k (by decide)).trans q3.1, q3.2.1, fun i w hw => (rI_a (by decide)).trans (q3.2.2 i w hw)⟩, ⟨(rI_k (by decide)).trans q4.1, q4.2.1, fun i w hw => (rI_a (by decide)).trans (q4.2.2 i w hw)⟩, fun x hx => (rI_a (by decide)).trans (q5 x hx), fun r hr => ?_⟩
  rw [rI_k (by have := (fm_in hr).2.2.1; omega)]; exact q6 r hr
theorem y_thr {X : Nat × (Nat → Int32)} {M : MR} {d L pc idx : Nat} {ls : List (Option Value)} {st : List Value} {h : PH} {τ : MS} {Q : Option Value → PH → Prop} {v : Int32} (q : RM h τ) (hd : decode M.2.1 pc = .ok (.putfield idx, 3)) (hf : FL M.1 idx 10 0 .int false) (kk : FR (sI h 25 0 v) (sI h 25 0 v) → RM (sI h 25 0 v) τ → WP X M d L (pc + 3) ls st (sI h 25 0 v) Q) : WP X M d L pc ls (.int v :: .ref 25 :: st) h Q :=
  w_pi q.1 hd hf rfl rfl (by decide) (kk FR.rf q.thr)
theorem FR.thr {h h' : PH} {v : Int32} (f : FR (sI h 25 0 v) h') : hI h' 25 0 = v := (f.2 0 (Or.inl rfl)).trans rI_s
set_option maxRecDepth 20000 in
set_option maxHeartbeats 4000000 in
/-- step() -/
theorem T_mstep {X : Nat × (Nat → Int32)} {h0 h : PH} {τ : MS} {Q : Option Value → PH → Prop} (h0r : vp_in (τ.1 0) 65536) (f : FR h0 h) (q : RM h τ) (k : ∀ h', FR h0 h' → RM h' (mstp τ) → Q none h') : WP X mX11_step 6 134 0 (en 3 [.ref 25]) [] h Q := by
  refine w_aload_n dX11_step_0 rfl rfl ?_
  refine w_dup dX11_step_1 rfl ?_
  refine y_get (j := 16) q dX11_step_2 fX11_138 (by decide) rfl ?_
  refine w_iconst dX11_step_5 (v := 1) (by decide) ?_
  refine w_iadd dX11_step_6 ?_
  refine y_put (j := 16) f q dX11_step_7 fX11_138 (by decide) rfl (fun h1 f1 q1 => ?_)
  refine w_aload_n dX11_step_10 rfl rfl ?_
  refine y_get (j := 14) q1 dX11_step_11 fX11_77 (by decide) rfl ?_
  refine w_if_eq (tgt := 79) dX11_step_14 (by decide) (fun c_14 => ?_) (fun c_14 => ?_)
  · refine w_aload_n dX11_step_79 rfl rfl ?_
    refine w_iconst dX11_step_80 (v := 0) (by decide) ?_
    refine y_putz (j := 21) f1 q1 dX11_step_81 fX11_117 (by decide) (by decide) rfl (fun h2 f2 q2 => ?_)
    refine w_aload_n dX11_step_84 rfl rfl ?_
    refine y_get (j := 8) q2 dX11_step_85 fX11_57 (by decide) rfl ?_
    refine w_istore_n dX11_step_88 rfl (by decide) ?_
    refine w_aload_n dX11_step_89 rfl rfl ?_
    refine w_aload_n dX11_step_90 rfl rfl ?_
    refine y_get (j := 8) q2 dX11_step_91 fX11_57 (by decide) rfl ?_
    refine w_v1 (d2 := 2) (L2 := 45) dX11_step_94 vX11_145 rfl (q2.1.lt (by decide)) rfl (by decide) (Nat.le_of_ble_eq_true rfl) (by decide) (by decide) ?_
    refine T_mread f2 q2 (fun h3 f3 q3 => ?_)
    refine k_i rfl ?_
    refine w_istore_n dX11_step_97 rfl (by decide) ?_
    refine w_aload_n dX11_step_98 rfl rfl ?_
    refine w_aload_n dX11_step_99 rfl rfl ?_
    refine y_get (j := 8) q3 dX11_step_100 fX11_57 (by decide) rfl ?_
    refine w_iconst dX11_step_103 (v := 1) (by decide) ?_
    refine w_iadd dX11_step_104 ?_
    refine w_s1 (d2 := 0) (L2 := 0) dX11_step_105 vX11_93 rfl (by decide) (Nat.le_of_ble_eq_true rfl) (by decide) (by decide) ?_
    refine T_cut ?_
    refine k_i rfl ?_
    refine y_put (j := 8) f3 q3 dX11_step_108 fX11_57 (by decide) rfl (fun h4 f4 q4 => ?_)
    refine w_aload_n dX11_step_111 rfl rfl ?_
    refine y_get (j := 21) q4 dX11_step_112 fX11_117 (by decide) rfl ?_
    refine w_if_ne (tgt := 124) dX11_step_115 (by decide) (fun c_115 => ?_) (fun c_115 => ?_)
    · refine w_aload_n dX11_step_124 rfl rfl ?_
      refine y_get (j := 21) q4 dX11_step_125 fX11_117 (by decide) rfl ?_
      refine w_if_eq (tgt := 136) dX11_step_128 (by decide) (fun c_128 => absurd c_128 c_115) (fun c_128 => ?_)
      refine w_aload_n dX11_step_131 rfl rfl ?_
      refine w_iconst dX11_step_132 (v := 2) (by decide) ?_
      refine w_v1 (d2 := 3) (L2 := 65) dX11_step_133 vX11_151 rfl (q4.1.lt (by decide)) rfl (by decide) (Nat.le_of_ble_eq_true rfl) (by decide) (by decide) ?_
      refine T_mex f4 q4 (fun h5 f5 q5 => ?_)
      refine k_v rfl ?_
      refine w_vret dX11_step_136 ?_
      rw [mstp, mstq, mbod] at k; simp only [if_pos c_14, if_neg c_115, if_neg c_128] at k; exact k _ f5 q5
    · refine w_aload_n dX11_step_118 rfl rfl ?_
      refine w_iload_n dX11_step_119 rfl rfl ?_
      refine w_iload_n dX11_step_120 rfl rfl ?_
      refine w_v2 (d2 := 5) (L2 := 108) dX11_step_121 vX11_148 rfl (q4.1.lt (by decide)) rfl rfl (by decide) (Nat.le_of_ble_eq_true rfl) (by decide) (by decide) ?_
      refine T_mdoes (h0_st (t := sG τ 16 (τ.1 16 + 1)) h0r) f4 q4 (fun h6 f6 q6 => ?_)
      refine k_v rfl ?_
      refine w_aload_n dX11_step_124 rfl rfl ?_
      refine y_get (j := 21) q6 dX11_step_125 fX11_117 (by decide) rfl ?_
      refine w_if_eq (tgt := 136) dX11_step_128 (by decide) (fun c_128 => ?_) (fun c_128 => ?_)
      · refine w_vret dX11_step_136 ?_
        rw [mstp, mstq, mbod] at k; simp only [if_pos c_14, if_pos c_115, if_pos c_128] at k; exact k _ f6 q6
      · refine w_aload_n dX11_step_131 rfl rfl ?_
        refine w_iconst dX11_step_132 (v := 2) (by decide) ?_
        refine w_v1 (d2 := 3) (L2 := 65) dX11_step_133 vX11_151 rfl (q6.1.lt (by decide)) rfl (by decide) (Nat.le_of_ble_eq_true rfl) (by decide) (by decide) ?_
        refine T_mex f6 q6 (fun h7 f7 q7 => ?_)
        refine k_v rfl ?_
        refine w_vret dX11_step_136 ?_
        rw [mstp, mstq, mbod] at k; simp only [if_pos c_14, if_pos c_115, if_neg c_128] at k; exact k _ f7 q7
  · refine w_aload_n dX11_step_17 rfl rfl ?_
    refine w_gi q1.1 dX11_step_18 fX11_84 rfl rfl (by decide) ?_
    refine w_if_le (tgt := 79) dX11_step_21 (by decide) (fun c_21 => ?_) (fun c_21 => ?_)
    · rw [km_w q1] at c_21
      refine w_aload_n dX11_step_79 rfl rfl ?_
      refine w_iconst dX11_step_80 (v := 0) (by decide) ?_
      refine y_putz (j := 21) f1 q1 dX11_step_81 fX11_117 (by decide) (by decide) rfl (fun h8 f8 q8 => ?_)
      refine w_aload_n dX11_step_84 rfl rfl ?_
      refine y_get (j := 8) q8 dX11_step_85 fX11_57 (by decide) rfl ?_
      refine w_istore_n dX11_step_88 rfl (by decide) ?_
      refine w_aload_n dX11_step_89 rfl rfl ?_
      refine w_aload_n dX11_step_90 rfl rfl ?_
      refine y_get (j := 8) q8 dX11_step_91 fX11_57 (by decide) rfl ?_
      refine w_v1 (d2 := 2) (L2 := 45) dX11_step_94 vX11_145 rfl (q8.1.lt (by decide)) rfl (by decide) (Nat.le_of_ble_eq_true rfl) (by decide) (by decide) ?_
      refine T_mread f8 q8 (fun h9 f9 q9 => ?_)
      refine k_i rfl ?_
      refine w_istore_n dX11_step_97 rfl (by decide) ?_
      refine w_aload_n dX11_step_98 rfl rfl ?_
      refine w_aload_n dX11_step_99 rfl rfl ?_
      refine y_get (j := 8) q9 dX11_step_100 fX11_57 (by decide) rfl ?_
      refine w_iconst dX11_step_103 (v := 1) (by decide) ?_
      refine w_iadd dX11_step_104 ?_
      refine w_s1 (d2 := 0) (L2 := 0) dX11_step_105 vX11_93 rfl (by decide) (Nat.le_of_ble_eq_true rfl) (by decide) (by decide) ?_
      refine T_cut ?_
      refine k_i rfl ?_
      refine y_put (j := 8) f9 q9 dX11_step_108 fX11_57 (by decide) rfl (fun h10 f10 q10 => ?_)
      refine w_aload_n dX11_step_111 rfl rfl ?_
      refine y_get (j := 21) q10 dX11_step_112 fX11_117 (by decide) rfl ?_
      refine w_if_ne (tgt := 124) dX11_step_115 (by decide) (fun c_115 => ?_) (fun c_115 => ?_)
      · refine w_aload_n dX11_step_124 rfl rfl ?_
        refine y_get (j := 21) q10 dX11_step_125 fX11_117 (by decide) rfl ?_
        refine w_if_eq (tgt := 136) dX11_step_128 (by decide) (fun c_128 => absurd c_128 c_115) (fun c_128 => ?_)
        refine w_aload_n dX11_step_131 rfl rfl ?_
        refine w_iconst dX11_step_132 (v := 2) (by decide) ?_
        refine w_v1 (d2 := 3) (L2 := 65) dX11_step_133 vX11_151 rfl (q10.1.lt (by decide)) rfl (by decide) (Nat.le_of_ble_eq_true rfl) (by decide) (by decide) ?_
        refine T_mex f10 q10 (fun h11 f11 q11 => ?_)
        refine k_v rfl ?_
        refine w_vret dX11_step_136 ?_
        rw [mstp, mstq, mbod] at k; simp only [if_neg c_14, if_pos c_21, if_neg c_115, if_neg c_128] at k; exact k _ f11 q11
      · refine w_aload_n dX11_step_118 rfl rfl ?_
        refine w_iload_n dX11_step_119 rfl rfl ?_
        refine w_iload_n dX11_step_120 rfl rfl ?_
        refine w_v2 (d2 := 5) (L2 := 108) dX11_step_121 vX11_148 rfl (q10.1.lt (by decide)) rfl rfl (by decide) (Nat.le_of_ble_eq_true rfl) (by decide) (by decide) ?_
        refine T_mdoes (h0_st (t := sG τ 16 (τ.1 16 + 1)) h0r) f10 q10 (fun h12 f12 q12 => ?_)
        refine k_v rfl ?_
        refine w_aload_n dX11_step_124 rfl rfl ?_
        refine y_get (j := 21) q12 dX11_step_125 fX11_117 (by decide) rfl ?_
        refine w_if_eq (tgt := 136) dX11_step_128 (by decide) (fun c_128 => ?_) (fun c_128 => ?_)
        · refine w_vret dX11_step_136 ?_
          rw [mstp, mstq, mbod] at k; simp only [if_neg c_14, if_pos c_21, if_pos c_115, if_pos c_128] at k; exact k _ f12 q12
        · refine w_aload_n dX11_step_131 rfl rfl ?_
          refine w_iconst dX11_step_132 (v := 2) (by decide) ?_
          refine w_v1 (d2 := 3) (L2 := 65) dX11_step_133 vX11_151 rfl (q12.1.lt (by decide)) rfl (by decide) (Nat.le_of_ble_eq_true rfl) (by decide) (by decide) ?_
          refine T_mex f12 q12 (fun h13 f13 q13 => ?_)
          refine k_v rfl ?_
          refine w_vret dX11_step_136 ?_
          rw [mstp, mstq, mbod] at k; simp only [if_neg c_14, if_pos c_21, if_pos c_115, if_neg c_128] at k; exact k _ f13 q13
    · rw [km_w q1] at c_21
      refine w_aload_n dX11_step_24 rfl rfl ?_
      refine y_get (j := 9) q1 dX11_step_25 fX11_64 (by decide) rfl ?_
      refine w_bipush dX11_step_28 (v := 8) (by decide) ?_
      refine w_ishr dX11_step_30 ?_
      refine w_bipush dX11_step_31 (v := 7) (by decide) ?_
      refine w_iand dX11_step_33 ?_
      refine w_iconst dX11_step_34 (v := 4) (by decide) ?_
      refine w_icmp_ge (tgt := 79) dX11_step_35 (by decide) (fun c_35 => ?_) (fun c_35 => ?_)
      · refine w_aload_n dX11_step_79 rfl rfl ?_
        refine w_iconst dX11_step_80 (v := 0) (by decide) ?_
        refine y_putz (j := 21) f1 q1 dX11_step_81 fX11_117 (by decide) (by decide) rfl (fun h14 f14 q14 => ?_)
        refine w_aload_n dX11_step_84 rfl rfl ?_
        refine y_get (j := 8) q14 dX11_step_85 fX11_57 (by decide) rfl ?_
        refine w_istore_n dX11_step_88 rfl (by decide) ?_
        refine w_aload_n dX11_step_89 rfl rfl ?_
        refine w_aload_n dX11_step_90 rfl rfl ?_
        refine y_get (j := 8) q14 dX11_step_91 fX11_57 (by decide) rfl ?_
        refine w_v1 (d2 := 2) (L2 := 45) dX11_step_94 vX11_145 rfl (q14.1.lt (by decide)) rfl (by decide) (Nat.le_of_ble_eq_true rfl) (by decide) (by decide) ?_
        refine T_mread f14 q14 (fun h15 f15 q15 => ?_)
        refine k_i rfl ?_
        refine w_istore_n dX11_step_97 rfl (by decide) ?_
        refine w_aload_n dX11_step_98 rfl rfl ?_
        refine w_aload_n dX11_step_99 rfl rfl ?_
        refine y_get (j := 8) q15 dX11_step_100 fX11_57 (by decide) rfl ?_
        refine w_iconst dX11_step_103 (v := 1) (by decide) ?_
        refine w_iadd dX11_step_104 ?_
        refine w_s1 (d2 := 0) (L2 := 0) dX11_step_105 vX11_93 rfl (by decide) (Nat.le_of_ble_eq_true rfl) (by decide) (by decide) ?_
        refine T_cut ?_
        refine k_i rfl ?_
        refine y_put (j := 8) f15 q15 dX11_step_108 fX11_57 (by decide) rfl (fun h16 f16 q16 => ?_)
        refine w_aload_n dX11_step_111 rfl rfl ?_
        refine y_get (j := 21) q16 dX11_step_112 fX11_117 (by decide) rfl ?_
        refine w_if_ne (tgt := 124) dX11_step_115 (by decide) (fun c_115 => ?_) (fun c_115 => ?_)
        · refine w_aload_n dX11_step_124 rfl rfl ?_
          refine y_get (j := 21) q16 dX11_step_125 fX11_117 (by decide) rfl ?_
          refine w_if_eq (tgt := 136) dX11_step_128 (by decide) (fun c_128 => absurd c_128 c_115) (fun c_128 => ?_)
          refine w_aload_n dX11_step_131 rfl rfl ?_
          refine w_iconst dX11_step_132 (v := 2) (by decide) ?_
          refine w_v1 (d2 := 3) (L2 := 65) dX11_step_133 vX11_151 rfl (q16.1.lt (by decide)) rfl (by decide) (Nat.le_of_ble_eq_true rfl) (by decide) (by decide) ?_
          refine T_mex f16 q16 (fun h17 f17 q17 => ?_)
          refine k_v rfl ?_
          refine w_vret dX11_step_136 ?_
          rw [mstp, mstq, mbod] at k; simp only [if_neg c_14, if_neg c_21, if_pos c_35, if_neg c_115, if_neg c_128] at k; exact k _ f17 q17
        · refine w_aload_n dX11_step_118 rfl rfl ?_
          refine w_iload_n dX11_step_119 rfl rfl ?_
          refine w_iload_n dX11_step_120 rfl rfl ?_
          refine w_v2 (d2 := 5) (L2 := 108) dX11_step_121 vX11_148 rfl (q16.1.lt (by decide)) rfl rfl (by decide) (Nat.le_of_ble_eq_true rfl) (by decide) (by decide) ?_
          refine T_mdoes (h0_st (t := sG τ 16 (τ.1 16 + 1)) h0r) f16 q16 (fun h18 f18 q18 => ?_)
          refine k_v rfl ?_
          refine w_aload_n dX11_step_124 rfl rfl ?_
          refine y_get (j := 21) q18 dX11_step_125 fX11_117 (by decide) rfl ?_
          refine w_if_eq (tgt := 136) dX11_step_128 (by decide) (fun c_128 => ?_) (fun c_128 => ?_)
          · refine w_vret dX11_step_136 ?_
            rw [mstp, mstq, mbod] at k; simp only [if_neg c_14, if_neg c_21, if_pos c_35, if_pos c_115, if_pos c_128] at k; exact k _ f18 q18
          · refine w_aload_n dX11_step_131 rfl rfl ?_
            refine w_iconst dX11_step_132 (v := 2) (by decide) ?_
            refine w_v1 (d2 := 3) (L2 := 65) dX11_step_133 vX11_151 rfl (q18.1.lt (by decide)) rfl (by decide) (Nat.le_of_ble_eq_true rfl) (by decide) (by decide) ?_
            refine T_mex f18 q18 (fun h19 f19 q19 => ?_)
            refine k_v rfl ?_
            refine w_vret dX11_step_136 ?_
            rw [mstp, mstq, mbod] at k; simp only [if_neg c_14, if_neg c_21, if_pos c_35, if_pos c_115, if_neg c_128] at k; exact k _ f19 q19
      · refine w_aload_n dX11_step_38 rfl rfl ?_
        refine w_dup dX11_step_39 rfl ?_
        refine y_get (j := 17) q1 dX11_step_40 fX11_141 (by decide) rfl ?_
        refine w_iconst dX11_step_43 (v := 1) (by decide) ?_
        refine w_iadd dX11_step_44 ?_
        refine y_put (j := 17) f1 q1 dX11_step_45 fX11_141 (by decide) rfl (fun h20 f20 q20 => ?_)
        refine w_aload_n dX11_step_48 rfl rfl ?_
        refine w_v0 (d2 := 2) (L2 := 44) dX11_step_49 vX11_135 rfl (q20.1.lt (by decide)) (by decide) (Nat.le_of_ble_eq_true rfl) (by decide) (by decide) ?_
        refine T_goIn f20 q20 (fun h21 f21 q21 => ?_)
        refine k_v rfl ?_
        refine w_aload_n dX11_step_52 rfl rfl ?_
        refine w_aload_n dX11_step_53 rfl rfl ?_
        refine y_get (j := 9) q21 dX11_step_54 fX11_64 (by decide) rfl ?_
        refine w_ldc dX11_step_57 kX11_144 ?_
        refine w_iand dX11_step_59 ?_
        refine w_sipush dX11_step_60 (v := 1024) (by decide) ?_
        refine w_ior dX11_step_63 ?_
        refine y_put (j := 9) f21 q21 dX11_step_64 fX11_64 (by decide) rfl (fun h22 f22 q22 => ?_)
        refine w_aload_n dX11_step_67 rfl rfl ?_
        refine w_aload_n dX11_step_68 rfl rfl ?_
        refine w_sipush dX11_step_69 (v := 384) (by decide) ?_
        refine w_v1 (d2 := 1) (L2 := 22) dX11_step_72 vX11_124 rfl (q22.1.lt (by decide)) rfl (by decide) (Nat.le_of_ble_eq_true rfl) (by decide) (by decide) ?_
        refine T_mget f22 q22 (fun h23 f23 q23 => ?_)
        refine k_i rfl ?_
        refine y_put (j := 8) f23 q23 dX11_step_75 fX11_57 (by decide) rfl (fun h24 f24 q24 => ?_)
        refine w_vret dX11_step_78 ?_
        rw [mstp, mstq] at k; simp only [if_neg c_14, if_neg c_21, if_neg c_35] at k; exact k _ f24 q24

