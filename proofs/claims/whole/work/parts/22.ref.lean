/-! THE REFERENCE: its machine's methods -/
/-- all but the keys -/
def RMn (h : PH) (τ : MS) : Prop := St h ∧ (∀ a, a < 65536 → hI h 26 a = τ.2.1 a) ∧ PrM h τ.2.2.2 ∧ (∀ k, k < 8 → hI h 27 k = τ.1 k) ∧ ∀ q ∈ fmT, hI h 25 q.1 = τ.1 q.2
theorem RM.n {h : PH} {τ : MS} (q : RM h τ) : RMn h τ := ⟨q.1, q.2.1, q.2.2.2.1, q.2.2.2.2.1, q.2.2.2.2.2⟩
theorem RMn.k {h : PH} {τ : MS} {j : Nat} {v : Int32} (q : RMn h τ) : RMn (sI h 28 j v) τ := ⟨q.1.i, q.2.1, q.2.2.1, q.2.2.2.1, q.2.2.2.2⟩
theorem RMn.w {h : PH} {τ : MS} {v : Int32} (q : RMn h τ) : RMn (sI h 25 11 v) τ := ⟨q.1.i, q.2.1, ⟨(rI_k (by decide)).trans q.2.2.1.1, q.2.2.1.2⟩, q.2.2.2.1, fun r hr => (rI_k (fm_in hr).1).trans (q.2.2.2.2 r hr)⟩
set_option maxRecDepth 20000 in
set_option maxHeartbeats 4000000 in
theorem L_mtake {X : Nat × (Nat → Int32)} {h0 : PH} {Q : Option Value → PH → Prop} {k0 : Int32} {t : List Int32} {τ : MS} (hl : t.length + 1 ≤ 100) : ∀ (m n : Nat) (h : PH), n + m = t.length → FR h0 h → RMn h τ → hI h 25 11 = nI t.length → (∀ (j : Nat) (v : Int32), j < n → t[j]? = some v → hI h 28 j = v) → (∀ (j : Nat) (v : Int32), n ≤ j → t[j]? = some v → hI h 28 (j + 1) = v) → (∀ h', FR h0 h' → RM h' (sK τ t) → Q (some (.int k0)) h') → WP X mX11_takeKey 0 0 19 [some (.ref 25), some (.int k0), some (.int (nI n))] [] h Q := by
  intro m
  induction m with
  | zero =>
    intro n h hn f q hw h1 h2 k
    obtain rfl : n = t.length := by omega
    refine w_iload_n dX11_takeKey_19 rfl rfl ?_
    refine w_aload_n dX11_takeKey_20 rfl rfl ?_
    refine w_gi q.1 dX11_takeKey_21 fX11_84 rfl rfl (by decide) ?_
    refine w_icmp_ge (tgt := 47) dX11_takeKey_24 (by decide) (fun c_24 => ?_) (fun c_24 => absurd c_24 (not_not_intro (by rw [hw]; exact nI_le (Nat.le_refl _) (by omega))))
    refine w_iload_n dX11_takeKey_47 rfl rfl ?_
    refine w_iret dX11_takeKey_48 (fun _ e => by cases e; rfl) ?_
    exact k _ f ⟨q.1, q.2.1, ⟨hw, by show t.length ≤ 100; omega, fun i v hv => h1 i v (List.getElem?_eq_some_iff.mp hv).1 hv⟩, q.2.2.1, q.2.2.2.1, q.2.2.2.2⟩
  | succ m ih =>
    intro n h hn f q hw h1 h2 k
    refine w_iload_n dX11_takeKey_19 rfl rfl ?_
    refine w_aload_n dX11_takeKey_20 rfl rfl ?_
    refine w_gi q.1 dX11_takeKey_21 fX11_84 rfl rfl (by decide) ?_
    refine w_icmp_ge (tgt := 47) dX11_takeKey_24 (by decide) (fun c_24 => absurd c_24 (by rw [hw]; exact nI_ge (by omega) (by omega))) (fun c_24 => ?_)
    refine w_aload_n dX11_takeKey_27 rfl rfl ?_
    refine w_gs (b := 28) q.1 dX11_takeKey_28 fX11_17 (by decide) rfl rfl (by decide) ?_
    refine w_iload_n dX11_takeKey_31 rfl rfl ?_
    refine w_aload_n dX11_takeKey_32 rfl rfl ?_
    refine w_gs (b := 28) q.1 dX11_takeKey_33 fX11_17 (by decide) rfl rfl (by decide) ?_
    refine w_iload_n dX11_takeKey_36 rfl rfl ?_
    refine w_iconst dX11_takeKey_37 (v := 1) (by decide) ?_
    refine w_iadd dX11_takeKey_38 ?_
    refine w_iaload dX11_takeKey_39 rfl (q.1.lt (by decide)) (by rw [nI_1]; exact vp_in_nI (show n + 1 < 100 by omega) (by decide)) ?_
    refine w_iastore dX11_takeKey_40 rfl (q.1.lt (by decide)) (vp_in_nI (show n < 100 by omega) (by decide)) ?_
    refine w_iinc (v := nI (n + 1)) dX11_takeKey_41 rfl (nI_1 n) (by decide) ?_
    refine w_goto (tgt := 19) dX11_takeKey_44 (by decide) ?_
    rw [nI_1, nI_clamp (by omega), nI_clamp (by omega)]
    refine ih (n + 1) _ (by omega) (f.a (by decide)) q.k ((rI_a (by decide)).trans hw) (fun j v hj hv => ?_) (fun j v hj hv => ?_) k
    · by_cases e : j = n
      · subst e; rw [rI_s]; exact h2 j v (Nat.le_refl _) hv
      · rw [rI_k e]; exact h1 j v (by omega) hv
    · rw [rI_k (by omega)]; exact h2 j v (by omega) hv

set_option maxRecDepth 20000 in
set_option maxHeartbeats 4000000 in
/-- takeKey() -/
theorem T_mtake {X : Nat × (Nat → Int32)} {h0 h : PH} {τ : MS} {Q : Option Value → PH → Prop} {k0 : Int32} {t : List Int32} (he : τ.2.2.1 = k0 :: t) (f : FR h0 h) (q : RM h τ) (k : ∀ h', FR h0 h' → RM h' (sK τ t) → Q (some (.int k0)) h') : WP X mX11_takeKey 0 0 0 (en 3 [.ref 25]) [] h Q := by
  refine w_aload_n dX11_takeKey_0 rfl rfl ?_
  refine w_gs (b := 28) q.1 dX11_takeKey_1 fX11_17 (by decide) rfl rfl (by decide) ?_
  refine w_iconst dX11_takeKey_4 (v := 0) (by decide) ?_
  refine w_iaload dX11_takeKey_5 rfl (q.1.lt (by decide)) (vin (by decide)) ?_
  refine w_istore_n dX11_takeKey_6 rfl (by decide) ?_
  refine w_aload_n dX11_takeKey_7 rfl rfl ?_
  refine w_dup dX11_takeKey_8 rfl ?_
  refine w_gi q.1 dX11_takeKey_9 fX11_84 rfl rfl (by decide) ?_
  refine w_iconst dX11_takeKey_12 (v := 1) (by decide) ?_
  refine w_isub dX11_takeKey_13 ?_
  refine w_pi q.1 dX11_takeKey_14 fX11_84 rfl rfl (by decide) ?_
  refine w_iconst dX11_takeKey_17 (v := 0) (by decide) ?_
  refine w_istore_n dX11_takeKey_18 rfl (by decide) ?_
  obtain ⟨w1, w2, w3⟩ := q.2.2.1
  rw [he] at w1 w2 w3
  have e0 : hI h 28 (0 : Int32).toNatClampNeg = k0 := w3 0 k0 rfl
  rw [e0]
  refine L_mtake (τ := τ) (by simpa using w2) t.length 0 _ (by omega) (f.f (by decide)) q.n.w (by rw [rI_s, w1]; exact nI_pred _) (fun j v hj => by omega) (fun j v _ hv => ?_) k
  exact (rI_a (by decide)).trans (w3 (j + 1) v hv)

set_option maxRecDepth 20000 in
set_option maxHeartbeats 4000000 in
/-- get(place) -/
theorem T_mget {X : Nat × (Nat → Int32)} {h0 h : PH} {τ : MS} {Q : Option Value → PH → Prop} {p : Int32} (f : FR h0 h) (q : RM h τ) (k : ∀ h', FR h0 h' → RM h' (mgt τ p) → Q (some (.int (mlk τ (p &&& 65535)))) h') : WP X mX11_get 1 22 0 (en 4 [.ref 25, .int p]) [] h Q := by
  refine w_iload_n dX11_get_0 rfl rfl ?_
  refine w_s1 (d2 := 0) (L2 := 0) dX11_get_1 vX11_93 rfl (by decide) (Nat.le_of_ble_eq_true rfl) (by decide) (by decide) ?_
  refine T_cut ?_
  refine k_i rfl ?_
  refine w_istore_n dX11_get_4 rfl (by decide) ?_
  refine w_aload_n dX11_get_5 rfl rfl ?_
  refine w_iload_n dX11_get_6 rfl rfl ?_
  refine w_v1 (d2 := 0) (L2 := 0) dX11_get_7 vX11_97 rfl (q.1.lt (by decide)) rfl (by decide) (Nat.le_of_ble_eq_true rfl) (by decide) (by decide) ?_
  refine T_seen (in16 _) q ?_
  refine k_i rfl ?_
  refine w_istore_n dX11_get_10 rfl (by decide) ?_
  refine w_iload_n dX11_get_11 rfl rfl ?_
  refine w_ldc dX11_get_12 kX11_89 ?_
  refine w_icmp_ne (tgt := 37) dX11_get_14 (by decide) (fun c_14 => ?_) (fun c_14 => ?_)
  · refine w_iload_n dX11_get_37 rfl rfl ?_
    refine w_iret dX11_get_38 (fun _ e => by cases e; rfl) ?_
    rw [mgt, if_neg c_14] at k; exact k _ f q
  · refine w_aload_n dX11_get_17 rfl rfl ?_
    refine w_iload_n dX11_get_18 rfl rfl ?_
    refine y_put (j := 13) f q dX11_get_19 fX11_81 (by decide) rfl (fun h1 f1 q1 => ?_)
    refine w_aload_n dX11_get_22 rfl rfl ?_
    refine w_gi q1.1 dX11_get_23 fX11_84 rfl rfl (by decide) ?_
    
    refine w_if_le (tgt := 37) dX11_get_26 (by decide) (fun c_26 => ?_) (fun c_26 => ?_)
    · refine w_iload_n dX11_get_37 rfl rfl ?_
      refine w_iret dX11_get_38 (fun _ e => by cases e; rfl) ?_
      rw [km_w q1] at c_26
      rw [mgt, if_pos c_14, show τ.2.2.1 = [] from c_26] at k; exact k _ f1 q1
    · refine w_aload_n dX11_get_29 rfl rfl ?_
      refine w_aload_n dX11_get_30 rfl rfl ?_
      refine w_v0 (d2 := 0) (L2 := 0) dX11_get_31 vX11_100 rfl (q1.1.lt (by decide)) (by decide) (Nat.le_of_ble_eq_true rfl) (by decide) (by decide) ?_
      have ne : τ.2.2.1 ≠ [] := fun z => c_26 ((km_w q1).mpr z)
      obtain ⟨k9, t9, ek⟩ := List.exists_cons_of_ne_nil ne
      refine T_mtake (τ := sG τ 13 (mlk τ (p &&& 65535))) (k0 := k9) (t := t9) ek f1 q1 (fun h2 f2 q2 => ?_)
      refine k_i rfl ?_
      refine y_put (j := 13) f2 q2 dX11_get_34 fX11_81 (by decide) rfl (fun h3 f3 q3 => ?_)
      refine w_iload_n dX11_get_37 rfl rfl ?_
      refine w_iret dX11_get_38 (fun _ e => by cases e; rfl) ?_
      rw [mgt, if_pos c_14, ek] at k; exact k _ f3 q3

set_option maxRecDepth 20000 in
set_option maxHeartbeats 4000000 in
/-- put(place, v) -/
theorem T_mput {X : Nat × (Nat → Int32)} {h0 h : PH} {τ : MS} {Q : Option Value → PH → Prop} {p v : Int32} (f : FR h0 h) (q : RM h τ) (k : ∀ h', FR h0 h' → RM h' (mpt τ p v) → Q none h') : WP X mX11_put 1 21 0 (en 4 [.ref 25, .int p, .int v]) [] h Q := by
  refine w_iload_n dX11_put_0 rfl rfl ?_
  refine w_s1 (d2 := 0) (L2 := 0) dX11_put_1 vX11_93 rfl (by decide) (Nat.le_of_ble_eq_true rfl) (by decide) (by decide) ?_
  refine T_cut ?_
  refine k_i rfl ?_
  refine w_istore_n dX11_put_4 rfl (by decide) ?_
  refine w_iload_n dX11_put_5 rfl rfl ?_
  refine w_ldc dX11_put_6 kX11_70 ?_
  refine w_icmp_ne (tgt := 33) dX11_put_8 (by decide) (fun c_8 => ?_) (fun c_8 => ?_)
  · refine w_iload_n dX11_put_33 rfl rfl ?_
    refine w_ldc dX11_put_34 kX11_92 ?_
    refine w_icmp_ne (tgt := 51) dX11_put_36 (by decide) (fun c_36 => ?_) (fun c_36 => ?_)
    · refine w_iload_n dX11_put_51 rfl rfl ?_
      refine w_ldc dX11_put_52 kX11_91 ?_
      refine w_icmp_ne (tgt := 81) dX11_put_54 (by decide) (fun c_54 => ?_) (fun c_54 => ?_)
      · refine w_iload_n dX11_put_81 rfl rfl ?_
        refine w_ldc dX11_put_82 kX11_89 ?_
        refine w_icmp_eq (tgt := 100) dX11_put_84 (by decide) (fun c_84 => ?_) (fun c_84 => ?_)
        · refine w_vret dX11_put_100 ?_
          rw [mpt, if_neg c_8, if_neg c_36, if_neg c_54, if_pos c_84] at k; exact k _ f q
        · refine w_iload_n dX11_put_87 rfl rfl ?_
          refine w_ldc dX11_put_88 kX11_90 ?_
          refine w_icmp_eq (tgt := 100) dX11_put_90 (by decide) (fun c_90 => ?_) (fun c_90 => ?_)
          · refine w_vret dX11_put_100 ?_
            rw [mpt, if_neg c_8, if_neg c_36, if_neg c_54, if_neg c_84, if_pos c_90] at k; exact k _ f q
          · refine w_aload_n dX11_put_93 rfl rfl ?_
            refine w_gs (b := 26) q.1 dX11_put_94 fX11_8 (by decide) rfl rfl (by decide) ?_
            refine w_iload_n dX11_put_97 rfl rfl ?_
            refine w_iload_n dX11_put_98 rfl rfl ?_
            refine e_put f q dX11_put_99 (in16 _) (fun h1 f1 q1 => ?_)
            refine w_vret dX11_put_100 ?_
            rw [mpt, if_neg c_8, if_neg c_36, if_neg c_54, if_neg c_84, if_neg c_90] at k; exact k _ f1 q1
      · refine w_aload_n dX11_put_57 rfl rfl ?_
        refine w_iload_n dX11_put_58 rfl rfl ?_
        refine w_bipush dX11_put_59 (v := 15) (by decide) ?_
        refine w_ishr dX11_put_61 ?_
        refine w_iconst dX11_put_62 (v := 1) (by decide) ?_
        refine w_iand dX11_put_63 ?_
        refine w_if_ne (tgt := 71) dX11_put_64 (by decide) (fun c_64 => ?_) (fun c_64 => ?_)
        · refine w_aload_n dX11_put_71 rfl rfl ?_
          refine y_get (j := 12) q dX11_put_72 fX11_74 (by decide) rfl ?_
          refine y_put (j := 12) f q dX11_put_75 fX11_74 (by decide) rfl (fun h2 f2 q2 => ?_)
          refine w_goto (tgt := 100) dX11_put_78 (by decide) ?_
          refine w_vret dX11_put_100 ?_
          rw [mpt, if_neg c_8, if_neg c_36, if_pos c_54, if_neg c_64] at k; exact k _ f2 q2
        · refine w_iconst dX11_put_67 (v := 1) (by decide) ?_
          refine w_goto (tgt := 75) dX11_put_68 (by decide) ?_
          refine y_put (j := 12) f q dX11_put_75 fX11_74 (by decide) rfl (fun h3 f3 q3 => ?_)
          refine w_goto (tgt := 100) dX11_put_78 (by decide) ?_
          refine w_vret dX11_put_100 ?_
          rw [mpt, if_neg c_8, if_neg c_36, if_pos c_54, if_pos c_64] at k; exact k _ f3 q3
    · refine w_aload_n dX11_put_39 rfl rfl ?_
      refine w_iload_n dX11_put_40 rfl rfl ?_
      refine w_sipush dX11_put_41 (v := 255) (by decide) ?_
      refine w_iand dX11_put_44 ?_
      refine w_v1 (d2 := 0) (L2 := 0) dX11_put_45 vX11_104 rfl (q.1.lt (by decide)) rfl (by decide) (Nat.le_of_ble_eq_true rfl) (by decide) (by decide) ?_
      refine T_mprints f q (fun h4 f4 q4 => ?_)
      refine k_v rfl ?_
      refine w_goto (tgt := 100) dX11_put_48 (by decide) ?_
      refine w_vret dX11_put_100 ?_
      rw [mpt, if_neg c_8, if_pos c_36] at k; exact k _ f4 q4
  · refine w_aload_n dX11_put_11 rfl rfl ?_
    refine w_iload_n dX11_put_12 rfl rfl ?_
    refine w_bipush dX11_put_13 (v := 14) (by decide) ?_
    refine w_ishr dX11_put_15 ?_
    refine w_iconst dX11_put_16 (v := 1) (by decide) ?_
    refine w_iand dX11_put_17 ?_
    refine w_iconst dX11_put_18 (v := 1) (by decide) ?_
    refine w_icmp_ne (tgt := 26) dX11_put_19 (by decide) (fun c_19 => ?_) (fun c_19 => ?_)
    · refine w_iconst dX11_put_26 (v := 0) (by decide) ?_
      refine y_putz (j := 14) f q dX11_put_27 fX11_77 (by decide) (by decide) rfl (fun h5 f5 q5 => ?_)
      refine w_goto (tgt := 100) dX11_put_30 (by decide) ?_
      refine w_vret dX11_put_100 ?_
      rw [mpt, if_pos c_8, if_neg c_19] at k; exact k _ f5 q5
    · refine w_iconst dX11_put_22 (v := 1) (by decide) ?_
      refine w_goto (tgt := 27) dX11_put_23 (by decide) ?_
      refine y_putz (j := 14) f q dX11_put_27 fX11_77 (by decide) (by decide) rfl (fun h6 f6 q6 => ?_)
      refine w_goto (tgt := 100) dX11_put_30 (by decide) ?_
      refine w_vret dX11_put_100 ?_
      rw [mpt, if_pos c_8, if_pos c_19] at k; exact k _ f6 q6

set_option maxRecDepth 20000 in
set_option maxHeartbeats 4000000 in
/-- isOut(place) -/
theorem T_out {X : Nat × (Nat → Int32)} {h : PH} {τ : MS} {Q : Option Value → PH → Prop} {p : Int32} (q : RM h τ) (k0 : ¬ outM τ p → Q (some (.int 0)) h) (k1 : outM τ p → Q (some (.int 1)) h) : WP X mX11_isOut 1 20 0 (en 3 [.ref 25, .int p]) [] h Q := by
  refine w_iload_n dX11_isOut_0 rfl rfl ?_
  refine w_s1 (d2 := 0) (L2 := 0) dX11_isOut_1 vX11_93 rfl (by decide) (Nat.le_of_ble_eq_true rfl) (by decide) (by decide) ?_
  refine T_cut ?_
  refine k_i rfl ?_
  refine w_istore_n dX11_isOut_4 rfl (by decide) ?_
  refine w_aload_n dX11_isOut_5 rfl rfl ?_
  refine w_v0 (d2 := 0) (L2 := 0) dX11_isOut_6 vX11_113 rfl (q.1.lt (by decide)) (by decide) (Nat.le_of_ble_eq_true rfl) (by decide) (by decide) ?_
  refine T_user q (fun c_u => ?_) (fun c_u => ?_)
  · refine k_i rfl ?_
    refine w_if_eq (tgt := 29) dX11_isOut_9 (by decide) (fun c_9 => ?_) (fun c_9 => absurd c_9 (by decide))
    refine w_iconst dX11_isOut_29 (v := 0) (by decide) ?_
    refine w_iret dX11_isOut_30 (fun _ e => by cases e; decide) ?_
    exact k0 (fun z => z.1 c_u)
  · refine k_i rfl ?_
    refine w_if_eq (tgt := 29) dX11_isOut_9 (by decide) (fun c_9 => absurd c_9 (by decide)) (fun c_9 => ?_)
    refine w_iload_n dX11_isOut_12 rfl rfl ?_
    refine w_sipush dX11_isOut_13 (v := 12288) (by decide) ?_
    refine w_icmp_lt (tgt := 25) dX11_isOut_16 (by decide) (fun c_16 => ?_) (fun c_16 => ?_)
    · refine w_iconst dX11_isOut_25 (v := 1) (by decide) ?_
      refine w_goto (tgt := 30) dX11_isOut_26 (by decide) ?_
      refine w_iret dX11_isOut_30 (fun _ e => by cases e; decide) ?_
      exact k1 ⟨c_u, Or.inl c_16⟩
    · refine w_iload_n dX11_isOut_19 rfl rfl ?_
      refine w_ldc dX11_isOut_20 kX11_70 ?_
      refine w_icmp_lt (tgt := 29) dX11_isOut_22 (by decide) (fun c_22 => ?_) (fun c_22 => ?_)
      · refine w_iconst dX11_isOut_29 (v := 0) (by decide) ?_
        refine w_iret dX11_isOut_30 (fun _ e => by cases e; decide) ?_
        exact k0 (fun z => z.2.elim c_16 (fun y => y c_22))
      · refine w_iconst dX11_isOut_25 (v := 1) (by decide) ?_
        refine w_goto (tgt := 30) dX11_isOut_26 (by decide) ?_
        refine w_iret dX11_isOut_30 (fun _ e => by cases e; decide) ?_
        exact k1 ⟨c_u, Or.inr c_22⟩

noncomputable def flM (τ : MS) (p : Int32) : Int32 := if τ.1 21 = 0 then ifp (outM τ p) 1 0 else 1
noncomputable def mrd (τ : MS) (p : Int32) : MS := if flM τ p = 0 then mgt (sG τ 21 (flM τ p)) p else sG τ 21 (flM τ p)
noncomputable def mrv (τ : MS) (p : Int32) : Int32 := if flM τ p = 0 then mlk (sG τ 21 (flM τ p)) (p &&& 65535) else 0
noncomputable def mwr (τ : MS) (p v : Int32) : MS := if flM τ p = 0 then mpt (sG τ 21 (flM τ p)) p v else sG τ 21 (flM τ p)
def mcm (τ : MS) (dr v : Int32) : MS := if τ.1 21 = 0 then sG (sG τ dr.toNatClampNeg (v &&& 65535)) 9 ((sG τ dr.toNatClampNeg (v &&& 65535)).1 9 &&& 65528 ||| (if (sG τ dr.toNatClampNeg (v &&& 65535)).1 dr.toNatClampNeg < 32768 then (if (sG τ dr.toNatClampNeg (v &&& 65535)).1 dr.toNatClampNeg = 0 then 2 else 1) else 4)) else τ
theorem fl0 {τ : MS} {p : Int32} (c : τ.1 21 = 0) (o : ¬ outM τ p) : flM τ p = 0 := by rw [flM, if_pos c, ifp_f o]
theorem fl1 {τ : MS} {p : Int32} (c : τ.1 21 = 0) (o : outM τ p) : flM τ p = 1 := by rw [flM, if_pos c, ifp_t o]
theorem fl2 {τ : MS} {p : Int32} (c : ¬ τ.1 21 = 0) : flM τ p = 1 := by rw [flM, if_neg c]
set_option maxRecDepth 20000 in
set_option maxHeartbeats 4000000 in
/-- read(place) -/
theorem T_mread {X : Nat × (Nat → Int32)} {h0 h : PH} {τ : MS} {Q : Option Value → PH → Prop} {p : Int32} (f : FR h0 h) (q : RM h τ) (k : ∀ h', FR h0 h' → RM h' (mrd τ p) → Q (some (.int (mrv τ p))) h') : WP X mX11_read 2 45 0 (en 2 [.ref 25, .int p]) [] h Q := by
  refine w_aload_n dX11_read_0 rfl rfl ?_
  refine w_aload_n dX11_read_1 rfl rfl ?_
  refine y_get (j := 21) q dX11_read_2 fX11_117 (by decide) rfl ?_
  refine w_if_ne (tgt := 16) dX11_read_5 (by decide) (fun c_5 => ?_) (fun c_5 => ?_)
  · refine w_iconst dX11_read_16 (v := 1) (by decide) ?_
    refine w_goto (tgt := 21) dX11_read_17 (by decide) ?_
    refine y_putz (j := 21) f q dX11_read_21 fX11_117 (by decide) (by decide) rfl (fun h1 f1 q1 => ?_)
    refine w_aload_n dX11_read_24 rfl rfl ?_
    refine y_get (j := 21) q1 dX11_read_25 fX11_117 (by decide) rfl ?_
    refine w_if_eq (tgt := 35) dX11_read_28 (by decide) (fun c_28 => absurd c_28 (show ¬ (1 : Int32) = 0 by decide)) (fun c_28 => ?_)
    refine w_iconst dX11_read_31 (v := 0) (by decide) ?_
    refine w_goto (tgt := 40) dX11_read_32 (by decide) ?_
    refine w_iret dX11_read_40 (fun _ e => by cases e; rfl) ?_
    rw [mrd, mrv, fl2 c_5, if_neg (by decide), if_neg (by decide)] at k; exact k _ f1 q1
  · refine w_aload_n dX11_read_8 rfl rfl ?_
    refine w_iload_n dX11_read_9 rfl rfl ?_
    refine w_v1 (d2 := 1) (L2 := 20) dX11_read_10 vX11_120 rfl (q.1.lt (by decide)) rfl (by decide) (Nat.le_of_ble_eq_true rfl) (by decide) (by decide) ?_
    refine T_out q (fun c_o => ?_) (fun c_o => ?_)
    · refine k_i rfl ?_
      refine w_if_eq (tgt := 20) dX11_read_13 (by decide) (fun c_13 => ?_) (fun c_13 => absurd c_13 (by decide))
      refine w_iconst dX11_read_20 (v := 0) (by decide) ?_
      refine y_putz (j := 21) f q dX11_read_21 fX11_117 (by decide) (by decide) rfl (fun h2 f2 q2 => ?_)
      refine w_aload_n dX11_read_24 rfl rfl ?_
      refine y_get (j := 21) q2 dX11_read_25 fX11_117 (by decide) rfl ?_
      refine w_if_eq (tgt := 35) dX11_read_28 (by decide) (fun c_28 => ?_) (fun c_28 => absurd c_28 (not_not_intro (show (0 : Int32) = 0 from rfl)))
      refine w_aload_n dX11_read_35 rfl rfl ?_
      refine w_iload_n dX11_read_36 rfl rfl ?_
      refine w_v1 (d2 := 1) (L2 := 22) dX11_read_37 vX11_124 rfl (q2.1.lt (by decide)) rfl (by decide) (Nat.le_of_ble_eq_true rfl) (by decide) (by decide) ?_
      refine T_mget f2 q2 (fun h3 f3 q3 => ?_)
      refine k_i rfl ?_
      refine w_iret dX11_read_40 (fun _ e => by cases e; rfl) ?_
      rw [mrd, mrv, fl0 c_5 c_o, if_pos (by decide), if_pos (by decide)] at k; exact k _ f3 q3
    · refine k_i rfl ?_
      refine w_if_eq (tgt := 20) dX11_read_13 (by decide) (fun c_13 => absurd c_13 (by decide)) (fun c_13 => ?_)
      refine w_iconst dX11_read_16 (v := 1) (by decide) ?_
      refine w_goto (tgt := 21) dX11_read_17 (by decide) ?_
      refine y_putz (j := 21) f q dX11_read_21 fX11_117 (by decide) (by decide) rfl (fun h4 f4 q4 => ?_)
      refine w_aload_n dX11_read_24 rfl rfl ?_
      refine y_get (j := 21) q4 dX11_read_25 fX11_117 (by decide) rfl ?_
      refine w_if_eq (tgt := 35) dX11_read_28 (by decide) (fun c_28 => absurd c_28 (show ¬ (1 : Int32) = 0 by decide)) (fun c_28 => ?_)
      refine w_iconst dX11_read_31 (v := 0) (by decide) ?_
      refine w_goto (tgt := 40) dX11_read_32 (by decide) ?_
      refine w_iret dX11_read_40 (fun _ e => by cases e; rfl) ?_
      rw [mrd, mrv, fl1 c_5 c_o, if_neg (by decide), if_neg (by decide)] at k; exact k _ f4 q4

set_option maxRecDepth 20000 in
set_option maxHeartbeats 4000000 in
/-- writes(place, v) -/
theorem T_mwrites {X : Nat × (Nat → Int32)} {h0 h : PH} {τ : MS} {Q : Option Value → PH → Prop} {p v : Int32} (f : FR h0 h) (q : RM h τ) (k : ∀ h', FR h0 h' → RM h' (mwr τ p v) → Q none h') : WP X mX11_writes 2 44 0 (en 3 [.ref 25, .int p, .int v]) [] h Q := by
  refine w_aload_n dX11_writes_0 rfl rfl ?_
  refine w_aload_n dX11_writes_1 rfl rfl ?_
  refine y_get (j := 21) q dX11_writes_2 fX11_117 (by decide) rfl ?_
  refine w_if_ne (tgt := 16) dX11_writes_5 (by decide) (fun c_5 => ?_) (fun c_5 => ?_)
  · refine w_iconst dX11_writes_16 (v := 1) (by decide) ?_
    refine w_goto (tgt := 21) dX11_writes_17 (by decide) ?_
    refine y_putz (j := 21) f q dX11_writes_21 fX11_117 (by decide) (by decide) rfl (fun h1 f1 q1 => ?_)
    refine w_aload_n dX11_writes_24 rfl rfl ?_
    refine y_get (j := 21) q1 dX11_writes_25 fX11_117 (by decide) rfl ?_
    refine w_if_ne (tgt := 37) dX11_writes_28 (by decide) (fun c_28 => ?_) (fun c_28 => absurd c_28 (show ¬ (1 : Int32) = 0 by decide))
    refine w_vret dX11_writes_37 ?_
    rw [mwr, fl2 c_5, if_neg (by decide)] at k; exact k _ f1 q1
  · refine w_aload_n dX11_writes_8 rfl rfl ?_
    refine w_iload_n dX11_writes_9 rfl rfl ?_
    refine w_v1 (d2 := 1) (L2 := 20) dX11_writes_10 vX11_120 rfl (q.1.lt (by decide)) rfl (by decide) (Nat.le_of_ble_eq_true rfl) (by decide) (by decide) ?_
    refine T_out q (fun c_o => ?_) (fun c_o => ?_)
    · refine k_i rfl ?_
      refine w_if_eq (tgt := 20) dX11_writes_13 (by decide) (fun c_13 => ?_) (fun c_13 => absurd c_13 (by decide))
      refine w_iconst dX11_writes_20 (v := 0) (by decide) ?_
      refine y_putz (j := 21) f q dX11_writes_21 fX11_117 (by decide) (by decide) rfl (fun h2 f2 q2 => ?_)
      refine w_aload_n dX11_writes_24 rfl rfl ?_
      refine y_get (j := 21) q2 dX11_writes_25 fX11_117 (by decide) rfl ?_
      refine w_if_ne (tgt := 37) dX11_writes_28 (by decide) (fun c_28 => absurd c_28 (not_not_intro (show (0 : Int32) = 0 from rfl))) (fun c_28 => ?_)
      refine w_aload_n dX11_writes_31 rfl rfl ?_
      refine w_iload_n dX11_writes_32 rfl rfl ?_
      refine w_iload_n dX11_writes_33 rfl rfl ?_
      refine w_v2 (d2 := 1) (L2 := 21) dX11_writes_34 vX11_127 rfl (q2.1.lt (by decide)) rfl rfl (by decide) (Nat.le_of_ble_eq_true rfl) (by decide) (by decide) ?_
      refine T_mput f2 q2 (fun h3 f3 q3 => ?_)
      refine k_v rfl ?_
      refine w_vret dX11_writes_37 ?_
      rw [mwr, fl0 c_5 c_o, if_pos (by decide)] at k; exact k _ f3 q3
    · refine k_i rfl ?_
      refine w_if_eq (tgt := 20) dX11_writes_13 (by decide) (fun c_13 => absurd c_13 (by decide)) (fun c_13 => ?_)
      refine w_iconst dX11_writes_16 (v := 1) (by decide) ?_
      refine w_goto (tgt := 21) dX11_writes_17 (by decide) ?_
      refine y_putz (j := 21) f q dX11_writes_21 fX11_117 (by decide) (by decide) rfl (fun h4 f4 q4 => ?_)
      refine w_aload_n dX11_writes_24 rfl rfl ?_
      refine y_get (j := 21) q4 dX11_writes_25 fX11_117 (by decide) rfl ?_
      refine w_if_ne (tgt := 37) dX11_writes_28 (by decide) (fun c_28 => ?_) (fun c_28 => absurd c_28 (show ¬ (1 : Int32) = 0 by decide))
      refine w_vret dX11_writes_37 ?_
      rw [mwr, fl1 c_5 c_o, if_neg (by decide)] at k; exact k _ f4 q4

set_option maxRecDepth 20000 in
set_option maxHeartbeats 4000000 in
/-- comes(dr, v) -/
theorem T_comes {X : Nat × (Nat → Int32)} {h0 h : PH} {τ : MS} {Q : Option Value → PH → Prop} {dr v : Int32} (hdr : vp_in dr 8) (f : FR h0 h) (q : RM h τ) (k : ∀ h', FR h0 h' → RM h' (mcm τ dr v) → Q none h') : WP X mX11_comes 1 20 0 (en 3 [.ref 25, .int dr, .int v]) [] h Q := by
  refine w_aload_n dX11_comes_0 rfl rfl ?_
  refine y_get (j := 21) q dX11_comes_1 fX11_117 (by decide) rfl ?_
  refine w_if_eq (tgt := 8) dX11_comes_4 (by decide) (fun c_4 => ?_) (fun c_4 => ?_)
  · refine w_aload_n dX11_comes_8 rfl rfl ?_
    refine w_gs (b := 27) q.1 dX11_comes_9 fX11_14 (by decide) rfl rfl (by decide) ?_
    refine w_iload_n dX11_comes_12 rfl rfl ?_
    refine w_iload_n dX11_comes_13 rfl rfl ?_
    refine w_s1 (d2 := 0) (L2 := 0) dX11_comes_14 vX11_93 rfl (by decide) (Nat.le_of_ble_eq_true rfl) (by decide) (by decide) ?_
    refine T_cut ?_
    refine k_i rfl ?_
    refine g_put f q dX11_comes_17 rfl hdr (fun h1 f1 q1 => ?_)
    refine w_aload_n dX11_comes_18 rfl rfl ?_
    refine w_aload_n dX11_comes_19 rfl rfl ?_
    refine y_get (j := 9) q1 dX11_comes_20 fX11_64 (by decide) rfl ?_
    refine w_ldc dX11_comes_23 kX11_131 ?_
    refine w_iand dX11_comes_25 ?_
    refine w_aload_n dX11_comes_26 rfl rfl ?_
    refine w_gs (b := 27) q1.1 dX11_comes_27 fX11_14 (by decide) rfl rfl (by decide) ?_
    refine w_iload_n dX11_comes_30 rfl rfl ?_
    refine g_get q1 dX11_comes_31 rfl hdr ?_
    refine w_ldc dX11_comes_32 kX11_88 ?_
    refine w_icmp_lt (tgt := 41) dX11_comes_34 (by decide) (fun c_34 => ?_) (fun c_34 => ?_)
    · refine w_aload_n dX11_comes_41 rfl rfl ?_
      refine w_gs (b := 27) q1.1 dX11_comes_42 fX11_14 (by decide) rfl rfl (by decide) ?_
      refine w_iload_n dX11_comes_45 rfl rfl ?_
      refine g_get q1 dX11_comes_46 rfl hdr ?_
      refine w_if_ne (tgt := 54) dX11_comes_47 (by decide) (fun c_47 => ?_) (fun c_47 => ?_)
      · refine w_iconst dX11_comes_54 (v := 1) (by decide) ?_
        refine w_ior dX11_comes_55 ?_
        refine y_put (j := 9) f1 q1 dX11_comes_56 fX11_64 (by decide) rfl (fun h2 f2 q2 => ?_)
        refine w_vret dX11_comes_59 ?_
        rw [mcm, if_pos c_4, if_pos c_34, if_neg c_47] at k; exact k _ f2 q2
      · refine w_iconst dX11_comes_50 (v := 2) (by decide) ?_
        refine w_goto (tgt := 55) dX11_comes_51 (by decide) ?_
        refine w_ior dX11_comes_55 ?_
        refine y_put (j := 9) f1 q1 dX11_comes_56 fX11_64 (by decide) rfl (fun h3 f3 q3 => ?_)
        refine w_vret dX11_comes_59 ?_
        rw [mcm, if_pos c_4, if_pos c_34, if_pos c_47] at k; exact k _ f3 q3
    · refine w_iconst dX11_comes_37 (v := 4) (by decide) ?_
      refine w_goto (tgt := 55) dX11_comes_38 (by decide) ?_
      refine w_ior dX11_comes_55 ?_
      refine y_put (j := 9) f1 q1 dX11_comes_56 fX11_64 (by decide) rfl (fun h4 f4 q4 => ?_)
      refine w_vret dX11_comes_59 ?_
      rw [mcm, if_pos c_4, if_neg c_34] at k; exact k _ f4 q4
  · refine w_vret dX11_comes_7 ?_
    rw [mcm, if_neg c_4] at k; exact k _ f q

def go1 (τ : MS) : MS := sG (sG τ 9 (τ.1 9 &&& 32767)) 6 ((sG τ 9 (τ.1 9 &&& 32767)).1 6 - 1 &&& 65535)
def go2 (τ : MS) (b : Int32) : MS := sG (mpt τ (τ.1 6) b) 6 ((mpt τ (τ.1 6) b).1 6 - 1 &&& 65535)
def go3 (τ : MS) : MS := mpt τ (τ.1 6) (τ.1 8)
def mgo (τ : MS) : MS := if τ.1 9 < 32768 then go3 (go2 (go1 τ) (τ.1 9)) else go3 (go2 (go1 (sG (sG τ 11 (τ.1 6)) 6 ((sG τ 11 (τ.1 6)).1 10))) (τ.1 9))
def mex (τ : MS) (x : Int32) : MS := sG (mgt (mgo (sG τ 18 (τ.1 18 + 1))) (256 + x)) 8 (mlk (mgo (sG τ 18 (τ.1 18 + 1))) (256 + x &&& 65535))
set_option maxRecDepth 20000 in
set_option maxHeartbeats 4000000 in
/-- goIn() -/
theorem T_goIn {X : Nat × (Nat → Int32)} {h0 h : PH} {τ : MS} {Q : Option Value → PH → Prop} (f : FR h0 h) (q : RM h τ) (k : ∀ h', FR h0 h' → RM h' (mgo τ) → Q none h') : WP X mX11_goIn 2 44 0 (en 2 [.ref 25]) [] h Q := by
  refine w_aload_n dX11_goIn_0 rfl rfl ?_
  refine y_get (j := 9) q dX11_goIn_1 fX11_64 (by decide) rfl ?_
  refine w_istore_n dX11_goIn_4 rfl (by decide) ?_
  refine w_aload_n dX11_goIn_5 rfl rfl ?_
  refine w_v0 (d2 := 0) (L2 := 0) dX11_goIn_6 vX11_113 rfl (q.1.lt (by decide)) (by decide) (Nat.le_of_ble_eq_true rfl) (by decide) (by decide) ?_
  refine T_user q (fun c_u => ?_) (fun c_u => ?_)
  · refine k_i rfl ?_
    refine w_if_eq (tgt := 34) dX11_goIn_9 (by decide) (fun c_9 => ?_) (fun c_9 => absurd c_9 (by decide))
    refine w_aload_n dX11_goIn_34 rfl rfl ?_
    refine w_aload_n dX11_goIn_35 rfl rfl ?_
    refine y_get (j := 9) q dX11_goIn_36 fX11_64 (by decide) rfl ?_
    refine w_sipush dX11_goIn_39 (v := 32767) (by decide) ?_
    refine w_iand dX11_goIn_42 ?_
    refine y_put (j := 9) f q dX11_goIn_43 fX11_64 (by decide) rfl (fun h1 f1 q1 => ?_)
    refine w_aload_n dX11_goIn_46 rfl rfl ?_
    refine w_gs (b := 27) q1.1 dX11_goIn_47 fX11_14 (by decide) rfl rfl (by decide) ?_
    refine w_bipush dX11_goIn_50 (v := 6) (by decide) ?_
    refine w_aload_n dX11_goIn_52 rfl rfl ?_
    refine w_gs (b := 27) q1.1 dX11_goIn_53 fX11_14 (by decide) rfl rfl (by decide) ?_
    refine w_bipush dX11_goIn_56 (v := 6) (by decide) ?_
    refine g_get (k := 6) q1 dX11_goIn_58 (by decide) (vin (by decide)) ?_
    refine w_iconst dX11_goIn_59 (v := 1) (by decide) ?_
    refine w_isub dX11_goIn_60 ?_
    refine w_s1 (d2 := 0) (L2 := 0) dX11_goIn_61 vX11_93 rfl (by decide) (Nat.le_of_ble_eq_true rfl) (by decide) (by decide) ?_
    refine T_cut ?_
    refine k_i rfl ?_
    refine g_put (k := 6) f1 q1 dX11_goIn_64 (by decide) (vin (by decide)) (fun h2 f2 q2 => ?_)
    refine w_aload_n dX11_goIn_65 rfl rfl ?_
    refine w_aload_n dX11_goIn_66 rfl rfl ?_
    refine w_gs (b := 27) q2.1 dX11_goIn_67 fX11_14 (by decide) rfl rfl (by decide) ?_
    refine w_bipush dX11_goIn_70 (v := 6) (by decide) ?_
    refine g_get (k := 6) q2 dX11_goIn_72 (by decide) (vin (by decide)) ?_
    refine w_iload_n dX11_goIn_73 rfl rfl ?_
    refine w_v2 (d2 := 1) (L2 := 21) dX11_goIn_74 vX11_127 rfl (q2.1.lt (by decide)) rfl rfl (by decide) (Nat.le_of_ble_eq_true rfl) (by decide) (by decide) ?_
    refine T_mput f2 q2 (fun h3 f3 q3 => ?_)
    refine k_v rfl ?_
    refine w_aload_n dX11_goIn_77 rfl rfl ?_
    refine w_gs (b := 27) q3.1 dX11_goIn_78 fX11_14 (by decide) rfl rfl (by decide) ?_
    refine w_bipush dX11_goIn_81 (v := 6) (by decide) ?_
    refine w_aload_n dX11_goIn_83 rfl rfl ?_
    refine w_gs (b := 27) q3.1 dX11_goIn_84 fX11_14 (by decide) rfl rfl (by decide) ?_
    refine w_bipush dX11_goIn_87 (v := 6) (by decide) ?_
    refine g_get (k := 6) q3 dX11_goIn_89 (by decide) (vin (by decide)) ?_
    refine w_iconst dX11_goIn_90 (v := 1) (by decide) ?_
    refine w_isub dX11_goIn_91 ?_
    refine w_s1 (d2 := 0) (L2 := 0) dX11_goIn_92 vX11_93 rfl (by decide) (Nat.le_of_ble_eq_true rfl) (by decide) (by decide) ?_
    refine T_cut ?_
    refine k_i rfl ?_
    refine g_put (k := 6) f3 q3 dX11_goIn_95 (by decide) (vin (by decide)) (fun h4 f4 q4 => ?_)
    refine w_aload_n dX11_goIn_96 rfl rfl ?_
    refine w_aload_n dX11_goIn_97 rfl rfl ?_
    refine w_gs (b := 27) q4.1 dX11_goIn_98 fX11_14 (by decide) rfl rfl (by decide) ?_
    refine w_bipush dX11_goIn_101 (v := 6) (by decide) ?_
    refine g_get (k := 6) q4 dX11_goIn_103 (by decide) (vin (by decide)) ?_
    refine w_aload_n dX11_goIn_104 rfl rfl ?_
    refine y_get (j := 8) q4 dX11_goIn_105 fX11_57 (by decide) rfl ?_
    refine w_v2 (d2 := 1) (L2 := 21) dX11_goIn_108 vX11_127 rfl (q4.1.lt (by decide)) rfl rfl (by decide) (Nat.le_of_ble_eq_true rfl) (by decide) (by decide) ?_
    refine T_mput f4 q4 (fun h5 f5 q5 => ?_)
    refine k_v rfl ?_
    refine w_vret dX11_goIn_111 ?_
    rw [mgo, if_pos c_u] at k; exact k _ f5 q5
  · refine k_i rfl ?_
    refine w_if_eq (tgt := 34) dX11_goIn_9 (by decide) (fun c_9 => absurd c_9 (by decide)) (fun c_9 => ?_)
    refine w_aload_n dX11_goIn_12 rfl rfl ?_
    refine w_aload_n dX11_goIn_13 rfl rfl ?_
    refine w_gs (b := 27) q.1 dX11_goIn_14 fX11_14 (by decide) rfl rfl (by decide) ?_
    refine w_bipush dX11_goIn_17 (v := 6) (by decide) ?_
    refine g_get (k := 6) q dX11_goIn_19 (by decide) (vin (by decide)) ?_
    refine y_put (j := 11) f q dX11_goIn_20 fX11_71 (by decide) rfl (fun h6 f6 q6 => ?_)
    refine w_aload_n dX11_goIn_23 rfl rfl ?_
    refine w_gs (b := 27) q6.1 dX11_goIn_24 fX11_14 (by decide) rfl rfl (by decide) ?_
    refine w_bipush dX11_goIn_27 (v := 6) (by decide) ?_
    refine w_aload_n dX11_goIn_29 rfl rfl ?_
    refine y_get (j := 10) q6 dX11_goIn_30 fX11_67 (by decide) rfl ?_
    refine g_put (k := 6) f6 q6 dX11_goIn_33 (by decide) (vin (by decide)) (fun h7 f7 q7 => ?_)
    refine w_aload_n dX11_goIn_34 rfl rfl ?_
    refine w_aload_n dX11_goIn_35 rfl rfl ?_
    refine y_get (j := 9) q7 dX11_goIn_36 fX11_64 (by decide) rfl ?_
    refine w_sipush dX11_goIn_39 (v := 32767) (by decide) ?_
    refine w_iand dX11_goIn_42 ?_
    refine y_put (j := 9) f7 q7 dX11_goIn_43 fX11_64 (by decide) rfl (fun h8 f8 q8 => ?_)
    refine w_aload_n dX11_goIn_46 rfl rfl ?_
    refine w_gs (b := 27) q8.1 dX11_goIn_47 fX11_14 (by decide) rfl rfl (by decide) ?_
    refine w_bipush dX11_goIn_50 (v := 6) (by decide) ?_
    refine w_aload_n dX11_goIn_52 rfl rfl ?_
    refine w_gs (b := 27) q8.1 dX11_goIn_53 fX11_14 (by decide) rfl rfl (by decide) ?_
    refine w_bipush dX11_goIn_56 (v := 6) (by decide) ?_
    refine g_get (k := 6) q8 dX11_goIn_58 (by decide) (vin (by decide)) ?_
    refine w_iconst dX11_goIn_59 (v := 1) (by decide) ?_
    refine w_isub dX11_goIn_60 ?_
    refine w_s1 (d2 := 0) (L2 := 0) dX11_goIn_61 vX11_93 rfl (by decide) (Nat.le_of_ble_eq_true rfl) (by decide) (by decide) ?_
    refine T_cut ?_
    refine k_i rfl ?_
    refine g_put (k := 6) f8 q8 dX11_goIn_64 (by decide) (vin (by decide)) (fun h9 f9 q9 => ?_)
    refine w_aload_n dX11_goIn_65 rfl rfl ?_
    refine w_aload_n dX11_goIn_66 rfl rfl ?_
    refine w_gs (b := 27) q9.1 dX11_goIn_67 fX11_14 (by decide) rfl rfl (by decide) ?_
    refine w_bipush dX11_goIn_70 (v := 6) (by decide) ?_
    refine g_get (k := 6) q9 dX11_goIn_72 (by decide) (vin (by decide)) ?_
    refine w_iload_n dX11_goIn_73 rfl rfl ?_
    refine w_v2 (d2 := 1) (L2 := 21) dX11_goIn_74 vX11_127 rfl (q9.1.lt (by decide)) rfl rfl (by decide) (Nat.le_of_ble_eq_true rfl) (by decide) (by decide) ?_
    refine T_mput f9 q9 (fun h10 f10 q10 => ?_)
    refine k_v rfl ?_
    refine w_aload_n dX11_goIn_77 rfl rfl ?_
    refine w_gs (b := 27) q10.1 dX11_goIn_78 fX11_14 (by decide) rfl rfl (by decide) ?_
    refine w_bipush dX11_goIn_81 (v := 6) (by decide) ?_
    refine w_aload_n dX11_goIn_83 rfl rfl ?_
    refine w_gs (b := 27) q10.1 dX11_goIn_84 fX11_14 (by decide) rfl rfl (by decide) ?_
    refine w_bipush dX11_goIn_87 (v := 6) (by decide) ?_
    refine g_get (k := 6) q10 dX11_goIn_89 (by decide) (vin (by decide)) ?_
    refine w_iconst dX11_goIn_90 (v := 1) (by decide) ?_
    refine w_isub dX11_goIn_91 ?_
    refine w_s1 (d2 := 0) (L2 := 0) dX11_goIn_92 vX11_93 rfl (by decide) (Nat.le_of_ble_eq_true rfl) (by decide) (by decide) ?_
    refine T_cut ?_
    refine k_i rfl ?_
    refine g_put (k := 6) f10 q10 dX11_goIn_95 (by decide) (vin (by decide)) (fun h11 f11 q11 => ?_)
    refine w_aload_n dX11_goIn_96 rfl rfl ?_
    refine w_aload_n dX11_goIn_97 rfl rfl ?_
    refine w_gs (b := 27) q11.1 dX11_goIn_98 fX11_14 (by decide) rfl rfl (by decide) ?_
    refine w_bipush dX11_goIn_101 (v := 6) (by decide) ?_
    refine g_get (k := 6) q11 dX11_goIn_103 (by decide) (vin (by decide)) ?_
    refine w_aload_n dX11_goIn_104 rfl rfl ?_
    refine y_get (j := 8) q11 dX11_goIn_105 fX11_57 (by decide) rfl ?_
    refine w_v2 (d2 := 1) (L2 := 21) dX11_goIn_108 vX11_127 rfl (q11.1.lt (by decide)) rfl rfl (by decide) (Nat.le_of_ble_eq_true rfl) (by decide) (by decide) ?_
    refine T_mput f11 q11 (fun h12 f12 q12 => ?_)
    refine k_v rfl ?_
    refine w_vret dX11_goIn_111 ?_
    rw [mgo, if_neg c_u] at k; exact k _ f12 q12

set_option maxRecDepth 20000 in
set_option maxHeartbeats 4000000 in
/-- exception(x) -/
theorem T_mex {X : Nat × (Nat → Int32)} {h0 h : PH} {τ : MS} {Q : Option Value → PH → Prop} {x : Int32} (f : FR h0 h) (q : RM h τ) (k : ∀ h', FR h0 h' → RM h' (mex τ x) → Q none h') : WP X mX11_exception 3 65 0 (en 2 [.ref 25, .int x]) [] h Q := by
  refine w_aload_n dX11_exception_0 rfl rfl ?_
  refine w_dup dX11_exception_1 rfl ?_
  refine y_get (j := 18) q dX11_exception_2 fX11_132 (by decide) rfl ?_
  refine w_iconst dX11_exception_5 (v := 1) (by decide) ?_
  refine w_iadd dX11_exception_6 ?_
  refine y_put (j := 18) f q dX11_exception_7 fX11_132 (by decide) rfl (fun h1 f1 q1 => ?_)
  refine w_aload_n dX11_exception_10 rfl rfl ?_
  refine w_v0 (d2 := 2) (L2 := 44) dX11_exception_11 vX11_135 rfl (q1.1.lt (by decide)) (by decide) (Nat.le_of_ble_eq_true rfl) (by decide) (by decide) ?_
  refine T_goIn f1 q1 (fun h2 f2 q2 => ?_)
  refine k_v rfl ?_
  refine w_aload_n dX11_exception_14 rfl rfl ?_
  refine w_aload_n dX11_exception_15 rfl rfl ?_
  refine w_sipush dX11_exception_16 (v := 256) (by decide) ?_
  refine w_iload_n dX11_exception_19 rfl rfl ?_
  refine w_iadd dX11_exception_20 ?_
  refine w_v1 (d2 := 1) (L2 := 22) dX11_exception_21 vX11_124 rfl (q2.1.lt (by decide)) rfl (by decide) (Nat.le_of_ble_eq_true rfl) (by decide) (by decide) ?_
  refine T_mget f2 q2 (fun h3 f3 q3 => ?_)
  refine k_i rfl ?_
  refine y_put (j := 8) f3 q3 dX11_exception_24 fX11_57 (by decide) rfl (fun h4 f4 q4 => ?_)
  refine w_vret dX11_exception_27 ?_
  rw [mex] at k; exact k _ f4 q4

