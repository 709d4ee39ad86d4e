/-! THE REFERENCE: reads, writes, exceptions -/
def mlk (τ : MS) (a : Int32) : Int32 := if a = 65024 then (if τ.2.2.1 = [] then 0 else 32768) + (if τ.1 14 = 0 then 0 else 16384) else if a = 65026 then daS τ else if a = 65028 then 32768 else if a = 65534 then 32768 else if a = 65030 then 0 else τ.2.1 a.toNatClampNeg
def sPm (τ : MS) (b : Int32) : MS := (va_up τ.1 15 (τ.1 15 + 1), τ.2.1, τ.2.2.1, addP τ.2.2.2 b)
def sgM (v n : Int32) : Int32 := if (v &&& (1 : Int32) <<< (n &&& 31) - 1) >>> (n - 1 &&& 31) = 1 then (v &&& (1 : Int32) <<< (n &&& 31) - 1) - (1 : Int32) <<< (n &&& 31) else v &&& (1 : Int32) <<< (n &&& 31) - 1
def mgt (τ : MS) (p : Int32) : MS := if p &&& 65535 = 65026 then (match τ.2.2.1 with
  | [] => sG τ 13 (mlk τ (p &&& 65535))
  | k :: t => sG (sK (sG τ 13 (mlk τ (p &&& 65535))) t) 13 k) else τ
def mpt (τ : MS) (p v : Int32) : MS := if p &&& 65535 = 65024 then sG τ 14 (if v >>> ((14 : Int32) &&& 31) &&& 1 = 1 then 1 else 0) else if p &&& 65535 = 65030 then sPm τ (v &&& 255) else if p &&& 65535 = 65534 then sG τ 12 (if v >>> ((15 : Int32) &&& 31) &&& 1 = 0 then 1 else τ.1 12) else if p &&& 65535 = 65026 then τ else if p &&& 65535 = 65028 then τ else sM τ (p &&& 65535).toNatClampNeg v
def outM (τ : MS) (p : Int32) : Prop := ¬ τ.1 9 < 32768 ∧ (p &&& 65535 < 12288 ∨ ¬ p &&& 65535 < 65024)
theorem RM.prn {h : PH} {τ : MS} {t b v : Int32} {j : Nat} (q : RM h τ) (ht : t = τ.1 15 + 1) (hb : b = nI (τ.2.2.2.length + 1)) (hj : j = τ.2.2.2.length) (hl : τ.2.2.2.length < 4000) : RM (sI (sI (sI h 29 j v) 25 14 b) 25 13 t) (sPm τ v) := by
  obtain ⟨q1, q2, q3, q4, q5, q6⟩ := q
  have e : addP τ.2.2.2 v = τ.2.2.2 ++ [v] := if_pos hl
  refine ⟨q1.i.i.i, q2, q3, ⟨?_, ?_, fun i x hx => ?_⟩, fun k hk => ?_, fun r hr => ?_⟩
  · show b = nI (addP τ.2.2.2 v).length; rw [e, hb, List.length_append]; rfl
  · show (addP τ.2.2.2 v).length ≤ 4000; rw [e, List.length_append]; show _ + 1 ≤ 4000; omega
  · have hx : (addP τ.2.2.2 v)[i]? = some x := hx
    rw [e] at hx
    show hI (sI h 29 j v) 29 i = x
    by_cases c : i < τ.2.2.2.length
    · rw [List.getElem?_append_left c] at hx
      rw [rI_k (by omega)]
      exact q4.2.2 i x hx
    · rw [List.getElem?_append_right (by omega)] at hx
      have e2 : i - τ.2.2.2.length = 0 := by
        cases e3 : i - τ.2.2.2.length with
        | zero => rfl
        | succ n => rw [e3] at hx; simp at hx
      rw [e2] at hx
      rw [show i = j by omega, rI_s]
      simpa using hx
  · exact (q5 k hk).trans (va_up_ne τ.1 _ (show k ≠ 15 by omega)).symm
  · have he := fm_eq hr (show ((13, 15) : Nat × Nat) ∈ fmT by decide)
    have h14 := (fm_in hr).2.1
    show _ = va_up τ.1 15 (τ.1 15 + 1) r.2
    by_cases c : r.1 = 13
    · rw [c, he.mp c, rI_s, va_up_self, ht]
    · rw [rI_k c, rI_k h14, va_up_ne _ _ (fun z => c (he.mpr z))]
      exact (rI_a (by decide)).trans (q6 r hr)
theorem RM.prn0 {h : PH} {τ : MS} {t v : Int32} (q : RM h τ) (ht : t = τ.1 15 + 1) (hl : ¬ τ.2.2.2.length < 4000) : RM (sI h 25 13 t) (sPm τ v) := by
  have e : addP τ.2.2.2 v = τ.2.2.2 := if_neg hl
  have := RM.fld (v := t) q (show ((13, 15) : Nat × Nat) ∈ fmT by decide)
  have e2 : sPm τ v = sG τ 15 t := by unfold sPm sG; rw [e, ht]
  rw [e2]; exact this
set_option maxRecDepth 20000 in
set_option maxHeartbeats 4000000 in
/-- cut(v) -/
theorem T_cut {X : Nat × (Nat → Int32)} {h : PH} {Q : Option Value → PH → Prop} {v : Int32} (k : Q (some (.int (v &&& 65535))) h) : WP X mX11_cut 0 0 0 (en 1 [.int v]) [] h Q := by
  refine w_iload_n dX11_cut_0 rfl rfl ?_
  refine w_ldc dX11_cut_1 kX11_87 ?_
  refine w_iand dX11_cut_3 ?_
  refine w_iret dX11_cut_4 (fun _ e => by cases e; rfl) ?_
  exact k

set_option maxRecDepth 20000 in
set_option maxHeartbeats 4000000 in
/-- signed(v, n) -/
theorem T_sgM {X : Nat × (Nat → Int32)} {h : PH} {Q : Option Value → PH → Prop} {v n : Int32} (k : Q (some (.int (sgM v n))) h) : WP X mX11_signed 0 0 0 (en 3 [.int v, .int n]) [] h Q := by
  refine w_iload_n dX11_signed_0 rfl rfl ?_
  refine w_iconst dX11_signed_1 (v := 1) (by decide) ?_
  refine w_iload_n dX11_signed_2 rfl rfl ?_
  refine w_ishl dX11_signed_3 ?_
  refine w_iconst dX11_signed_4 (v := 1) (by decide) ?_
  refine w_isub dX11_signed_5 ?_
  refine w_iand dX11_signed_6 ?_
  refine w_istore_n dX11_signed_7 rfl (by decide) ?_
  refine w_iload_n dX11_signed_8 rfl rfl ?_
  refine w_iload_n dX11_signed_9 rfl rfl ?_
  refine w_iconst dX11_signed_10 (v := 1) (by decide) ?_
  refine w_isub dX11_signed_11 ?_
  refine w_ishr dX11_signed_12 ?_
  refine w_iconst dX11_signed_13 (v := 1) (by decide) ?_
  refine w_icmp_ne (tgt := 25) dX11_signed_14 (by decide) (fun c_14 => ?_) (fun c_14 => ?_)
  · refine w_iload_n dX11_signed_25 rfl rfl ?_
    refine w_iret dX11_signed_26 (fun _ e => by cases e; rfl) ?_
    rw [sgM, if_neg c_14] at k; exact k
  · refine w_iload_n dX11_signed_17 rfl rfl ?_
    refine w_iconst dX11_signed_18 (v := 1) (by decide) ?_
    refine w_iload_n dX11_signed_19 rfl rfl ?_
    refine w_ishl dX11_signed_20 ?_
    refine w_isub dX11_signed_21 ?_
    refine w_goto (tgt := 26) dX11_signed_22 (by decide) ?_
    refine w_iret dX11_signed_26 (fun _ e => by cases e; rfl) ?_
    rw [sgM, if_pos c_14] at k; exact k

set_option maxRecDepth 20000 in
set_option maxHeartbeats 4000000 in
/-- isUser() -/
theorem T_user {X : Nat × (Nat → Int32)} {h : PH} {τ : MS} {Q : Option Value → PH → Prop} (q : RM h τ) (k0 : τ.1 9 < 32768 → Q (some (.int 0)) h) (k1 : ¬ τ.1 9 < 32768 → Q (some (.int 1)) h) : WP X mX11_isUser 0 0 0 (en 1 [.ref 25]) [] h Q := by
  refine w_aload_n dX11_isUser_0 rfl rfl ?_
  refine y_get (j := 9) q dX11_isUser_1 fX11_64 (by decide) rfl ?_
  refine w_ldc dX11_isUser_4 kX11_88 ?_
  refine w_icmp_lt (tgt := 13) dX11_isUser_6 (by decide) (fun c_6 => ?_) (fun c_6 => ?_)
  · refine w_iconst dX11_isUser_13 (v := 0) (by decide) ?_
    refine w_iret dX11_isUser_14 (fun _ e => by cases e; decide) ?_
    exact k0 c_6
  · refine w_iconst dX11_isUser_9 (v := 1) (by decide) ?_
    refine w_goto (tgt := 14) dX11_isUser_10 (by decide) ?_
    refine w_iret dX11_isUser_14 (fun _ e => by cases e; decide) ?_
    exact k1 c_6

set_option maxRecDepth 20000 in
set_option maxHeartbeats 4000000 in
/-- prints(b) -/
theorem T_mprints {X : Nat × (Nat → Int32)} {h0 h : PH} {τ : MS} {Q : Option Value → PH → Prop} {b : Int32} (f : FR h0 h) (q : RM h τ) (k : ∀ h', FR h0 h' → RM h' (sPm τ b) → Q none h') : WP X mX11_prints 0 0 0 (en 2 [.ref 25, .int b]) [] h Q := by
  refine w_aload_n dX11_prints_0 rfl rfl ?_
  refine w_gi q.1 dX11_prints_1 fX11_107 rfl rfl (by decide) ?_
  refine w_sipush dX11_prints_4 (v := 4000) (by decide) ?_
  refine w_icmp_ge (tgt := 30) dX11_prints_7 (by decide) (fun c_7 => ?_) (fun c_7 => ?_)
  · refine w_aload_n dX11_prints_30 rfl rfl ?_
    refine w_dup dX11_prints_31 rfl ?_
    refine w_gi q.1 dX11_prints_32 fX11_110 rfl rfl (by decide) ?_
    refine w_iconst dX11_prints_35 (v := 1) (by decide) ?_
    refine w_iadd dX11_prints_36 ?_
    refine w_pi q.1 dX11_prints_37 fX11_110 rfl rfl (by decide) ?_
    refine w_vret dX11_prints_40 ?_
    rw [q.2.2.2.1.1, show (4000 : Int32) = nI 4000 from rfl, nI_leI (by decide) (by have := q.2.2.2.1.2.1; omega)] at c_7
    exact k _ (f.f (by decide)) (RM.prn0 q (by rw [q.2.2.2.2.2 (13, 15) (by decide)]) (by omega))
  · refine w_aload_n dX11_prints_10 rfl rfl ?_
    refine w_gs (b := 29) q.1 dX11_prints_11 fX11_20 (by decide) rfl rfl (by decide) ?_
    refine w_aload_n dX11_prints_14 rfl rfl ?_
    refine w_gi q.1 dX11_prints_15 fX11_107 rfl rfl (by decide) ?_
    refine w_iload_n dX11_prints_18 rfl rfl ?_
    refine w_iastore dX11_prints_19 rfl (q.1.lt (by decide)) (by rw [q.2.2.2.1.1]; exact vp_in_nI (by rw [q.2.2.2.1.1, show (4000 : Int32) = nI 4000 from rfl, nI_leI (by decide) (by have := q.2.2.2.1.2.1; omega)] at c_7; show _ < 4000; omega) (by decide)) ?_
    refine w_aload_n dX11_prints_20 rfl rfl ?_
    refine w_dup dX11_prints_21 rfl ?_
    refine w_gi q.1.i dX11_prints_22 fX11_107 rfl rfl (by decide) ?_
    refine w_iconst dX11_prints_25 (v := 1) (by decide) ?_
    refine w_iadd dX11_prints_26 ?_
    refine w_pi q.1.i dX11_prints_27 fX11_107 rfl rfl (by decide) ?_
    refine w_aload_n dX11_prints_30 rfl rfl ?_
    refine w_dup dX11_prints_31 rfl ?_
    refine w_gi q.1.i.i dX11_prints_32 fX11_110 rfl rfl (by decide) ?_
    refine w_iconst dX11_prints_35 (v := 1) (by decide) ?_
    refine w_iadd dX11_prints_36 ?_
    refine w_pi q.1.i.i dX11_prints_37 fX11_110 rfl rfl (by decide) ?_
    refine w_vret dX11_prints_40 ?_
    rw [q.2.2.2.1.1, show (4000 : Int32) = nI 4000 from rfl, nI_leI (by decide) (by have := q.2.2.2.1.2.1; omega)] at c_7
    refine k _ (((f.a (by decide)).f (by decide)).f (by decide)) (RM.prn q ?_ ?_ ?_ (by omega))
    · rw [show hI (sI (sI h 29 (hI h 25 14).toNatClampNeg b) 25 14 (hI (sI h 29 (hI h 25 14).toNatClampNeg b) 25 14 + 1)) 25 13 = hI h 25 13 from (rI_k (by decide)).trans (rI_a (by decide)), q.2.2.2.2.2 (13, 15) (by decide)]
    · rw [show hI (sI h 29 (hI h 25 14).toNatClampNeg b) 25 14 = hI h 25 14 from rI_a (by decide), q.2.2.2.1.1, nI_1]
    · rw [q.2.2.2.1.1]; exact nI_clamp (by have := q.2.2.2.1.2.1; omega)

set_option maxRecDepth 20000 in
set_option maxHeartbeats 4000000 in
/-- seen(at) -/
theorem T_seen {X : Nat × (Nat → Int32)} {h : PH} {τ : MS} {Q : Option Value → PH → Prop} {a : Int32} (ha : vp_in a 65536) (q : RM h τ) (k : Q (some (.int (mlk τ a))) h) : WP X mX11_seen 0 0 0 (en 2 [.ref 25, .int a]) [] h Q := by
  refine w_iload_n dX11_seen_0 rfl rfl ?_
  refine w_ldc dX11_seen_1 kX11_70 ?_
  refine w_icmp_ne (tgt := 35) dX11_seen_3 (by decide) (fun c_3 => ?_) (fun c_3 => ?_)
  · refine w_iload_n dX11_seen_35 rfl rfl ?_
    refine w_ldc dX11_seen_36 kX11_89 ?_
    refine w_icmp_ne (tgt := 62) dX11_seen_38 (by decide) (fun c_38 => ?_) (fun c_38 => ?_)
    · refine w_iload_n dX11_seen_62 rfl rfl ?_
      refine w_ldc dX11_seen_63 kX11_90 ?_
      refine w_icmp_eq (tgt := 74) dX11_seen_65 (by decide) (fun c_65 => ?_) (fun c_65 => ?_)
      · refine w_ldc dX11_seen_74 kX11_88 ?_
        refine w_iret dX11_seen_76 (fun _ e => by cases e; rfl) ?_
        rw [mlk, if_neg c_3, if_neg c_38, if_pos c_65] at k; exact k
      · refine w_iload_n dX11_seen_68 rfl rfl ?_
        refine w_ldc dX11_seen_69 kX11_91 ?_
        refine w_icmp_ne (tgt := 77) dX11_seen_71 (by decide) (fun c_71 => ?_) (fun c_71 => ?_)
        · refine w_iload_n dX11_seen_77 rfl rfl ?_
          refine w_ldc dX11_seen_78 kX11_92 ?_
          refine w_icmp_ne (tgt := 87) dX11_seen_80 (by decide) (fun c_80 => ?_) (fun c_80 => ?_)
          · refine w_aload_n dX11_seen_87 rfl rfl ?_
            refine w_gs (b := 26) q.1 dX11_seen_88 fX11_8 (by decide) rfl rfl (by decide) ?_
            refine w_iload_n dX11_seen_91 rfl rfl ?_
            refine e_get q dX11_seen_92 ha ?_
            refine w_iret dX11_seen_93 (fun _ e => by cases e; rfl) ?_
            rw [mlk, if_neg c_3, if_neg c_38, if_neg c_65, if_neg c_71, if_neg c_80] at k; exact k
          · refine w_iconst dX11_seen_83 (v := 0) (by decide) ?_
            refine w_goto (tgt := 93) dX11_seen_84 (by decide) ?_
            refine w_iret dX11_seen_93 (fun _ e => by cases e; rfl) ?_
            rw [mlk, if_neg c_3, if_neg c_38, if_neg c_65, if_neg c_71, if_pos c_80] at k; exact k
        · refine w_ldc dX11_seen_74 kX11_88 ?_
          refine w_iret dX11_seen_76 (fun _ e => by cases e; rfl) ?_
          rw [mlk, if_neg c_3, if_neg c_38, if_neg c_65, if_pos c_71] at k; exact k
    · refine w_aload_n dX11_seen_41 rfl rfl ?_
      refine w_gi q.1 dX11_seen_42 fX11_84 rfl rfl (by decide) ?_
      refine w_if_le (tgt := 57) dX11_seen_45 (by decide) (fun c_45 => ?_) (fun c_45 => ?_)
      · refine w_aload_n dX11_seen_57 rfl rfl ?_
        refine y_get (j := 13) q dX11_seen_58 fX11_81 (by decide) rfl ?_
        refine w_iret dX11_seen_61 (fun _ e => by cases e; rfl) ?_
        rw [km_w q] at c_45
        rw [mlk, if_neg c_3, if_pos c_38, show daS τ = τ.1 13 from by unfold daS; rw [c_45]] at k; exact k
      · refine w_aload_n dX11_seen_48 rfl rfl ?_
        refine w_gs (b := 28) q.1 dX11_seen_49 fX11_17 (by decide) rfl rfl (by decide) ?_
        refine w_iconst dX11_seen_52 (v := 0) (by decide) ?_
        refine w_iaload dX11_seen_53 rfl (q.1.lt (by decide)) (vin (by decide)) ?_
        refine w_goto (tgt := 61) dX11_seen_54 (by decide) ?_
        refine w_iret dX11_seen_61 (fun _ e => by cases e; rfl) ?_
        rw [km_w q] at c_45
        rw [mlk, if_neg c_3, if_pos c_38, show daS τ = hI h 28 (0 : Int32).toNatClampNeg from by
          unfold daS
          cases e1 : τ.2.2.1 with
          | nil => exact absurd e1 c_45
          | cons x t => exact (q.2.2.1.2.2 0 x (by rw [e1]; rfl)).symm] at k
        exact k
  · refine w_aload_n dX11_seen_6 rfl rfl ?_
    refine w_gi q.1 dX11_seen_7 fX11_84 rfl rfl (by decide) ?_
    refine w_if_le (tgt := 18) dX11_seen_10 (by decide) (fun c_10 => ?_) (fun c_10 => ?_)
    · refine w_iconst dX11_seen_18 (v := 0) (by decide) ?_
      refine w_aload_n dX11_seen_19 rfl rfl ?_
      refine y_get (j := 14) q dX11_seen_20 fX11_77 (by decide) rfl ?_
      refine w_if_eq (tgt := 32) dX11_seen_23 (by decide) (fun c_23 => ?_) (fun c_23 => ?_)
      · refine w_iconst dX11_seen_32 (v := 0) (by decide) ?_
        refine w_iadd dX11_seen_33 ?_
        refine w_iret dX11_seen_34 (fun _ e => by cases e; rfl) ?_
        rw [km_w q] at c_10; rw [mlk, if_pos c_3, if_pos c_10, if_pos c_23] at k; exact k
      · refine w_sipush dX11_seen_26 (v := 16384) (by decide) ?_
        refine w_goto (tgt := 33) dX11_seen_29 (by decide) ?_
        refine w_iadd dX11_seen_33 ?_
        refine w_iret dX11_seen_34 (fun _ e => by cases e; rfl) ?_
        rw [km_w q] at c_10; rw [mlk, if_pos c_3, if_pos c_10, if_neg c_23] at k; exact k
    · refine w_ldc dX11_seen_13 kX11_88 ?_
      refine w_goto (tgt := 19) dX11_seen_15 (by decide) ?_
      refine w_aload_n dX11_seen_19 rfl rfl ?_
      refine y_get (j := 14) q dX11_seen_20 fX11_77 (by decide) rfl ?_
      refine w_if_eq (tgt := 32) dX11_seen_23 (by decide) (fun c_23 => ?_) (fun c_23 => ?_)
      · refine w_iconst dX11_seen_32 (v := 0) (by decide) ?_
        refine w_iadd dX11_seen_33 ?_
        refine w_iret dX11_seen_34 (fun _ e => by cases e; rfl) ?_
        rw [km_w q] at c_10; rw [mlk, if_pos c_3, if_neg c_10, if_pos c_23] at k; exact k
      · refine w_sipush dX11_seen_26 (v := 16384) (by decide) ?_
        refine w_goto (tgt := 33) dX11_seen_29 (by decide) ?_
        refine w_iadd dX11_seen_33 ?_
        refine w_iret dX11_seen_34 (fun _ e => by cases e; rfl) ?_
        rw [km_w q] at c_10; rw [mlk, if_pos c_3, if_neg c_10, if_neg c_23] at k; exact k

