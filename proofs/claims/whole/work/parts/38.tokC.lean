/-! TOKENS of the class: words and texts -/
theorem nI_sub {a b : Nat} (h : b ≤ a) : nI a - nI b = nI (a - b) := by
  have e := nI_add (a - b) b
  rw [Nat.sub_add_cancel h] at e
  rw [← e]
  exact Int32.add_sub_cancel _ _
theorem lc_eq {x y : Int64} : lg_cmp x y = 0 ↔ x = y := by
  unfold lg_cmp
  by_cases a : x > y
  · rw [if_pos a]; exact ⟨fun e => absurd e (by decide), fun e => absurd a (by rw [e]; exact Int64.lt_irrefl)⟩
  · rw [if_neg a]
    by_cases b : x = y
    · rw [if_pos b]; exact ⟨fun _ => b, fun _ => rfl⟩
    · rw [if_neg b]; exact ⟨fun e => absurd e (by decide), fun e => absurd e b⟩
theorem lc_le {x y : Int64} : lg_cmp x y ≤ 0 ↔ ¬ y < x := by
  unfold lg_cmp
  by_cases a : x > y
  · rw [if_pos a]; exact ⟨fun e => absurd e (by decide), fun e => absurd a e⟩
  · rw [if_neg a]
    by_cases b : x = y
    · rw [if_pos b]; exact ⟨fun _ => a, fun _ => by decide⟩
    · rw [if_neg b]; exact ⟨fun _ => a, fun _ => by decide⟩
theorem lc_lt {x y : Int64} : lg_cmp x y < 0 ↔ x < y := by
  unfold lg_cmp
  by_cases a : x > y
  · rw [if_pos a]; exact ⟨fun e => absurd e (by decide), fun e => absurd (Int64.lt_trans e a) (Int64.lt_irrefl)⟩
  · rw [if_neg a]
    by_cases b : x = y
    · rw [if_pos b]; exact ⟨fun e => absurd e (by decide), fun e => absurd e (by rw [b]; exact Int64.lt_irrefl)⟩
    · rw [if_neg b]; exact ⟨fun _ => Int64.lt_of_le_of_ne (Int64.not_lt.mp a) b, fun _ => by decide⟩
section
variable {X : Nat × (Nat → Int32)} {M : MR} {d L pc idx : Nat} {ls : List (Option Value)} {st : List Value} {h0 h : PH} {Q : Option Value → PH → Prop} {T : List Int32} {κ : KS} {ty : FieldType} {u : Nat}
theorem kx_pN (f : Fk h0 h) (q : RK h T κ) (hd : decode M.2.1 pc = .ok (.putfield idx, 3)) (hf : FL M.1 idx 7 5 ty false) (hy : isRefTy ty = true) (kk : ∀ h', Fk h0 h' → RK h' T (kP κ none) → WP X M d L (pc + 3) ls st h' Q) : WP X M d L pc ls (.null :: .ref 12 :: st) h Q :=
  w_putR (v := none) hd hf (Or.inl rfl) rfl rfl (q.1.lt (by decide)) hy (kk _ f.r q.p)
theorem kx_pS (f : Fk h0 h) (q : RK h T κ) (hd : decode M.2.1 pc = .ok (.putfield idx, 3)) (hf : FL M.1 idx 7 5 ty false) (hy : isRefTy ty = true) (kk : ∀ h', Fk h0 h' → RK h' T (kP κ (some u)) → WP X M d L (pc + 3) ls st h' Q) : WP X M d L pc ls (.ref u :: .ref 12 :: st) h Q :=
  w_putR (v := some u) hd hf (Or.inl rfl) rfl rfl (q.1.lt (by decide)) hy (kk _ f.r q.p)
end

theorem all_in {i : Nat} (hi : i < 37) : vp_in (nI i) ((List.range 37).map (fun i => Value.ref (1000000 + i))).length := vp_in_nI (show i < 37 from hi) (by decide)
theorem all_at {i : Nat} (hi : i < 37) : ((List.range 37).map (fun i => Value.ref (1000000 + i))).getD (nI i).toNatClampNeg .null = .ref (1000000 + i) := by rw [nI_clamp (by omega)]; exact all_get hi
set_option maxRecDepth 20000 in
set_option maxHeartbeats 4000000 in
theorem L_fO {X : Nat × (Nat → Int32)} {h0 : PH} {Q : Option Value → PH → Prop} {T : List Int32} {κ : KS} : ∀ (m i : Nat) (h : PH), i + m = 37 → Fk h0 h → RK h T κ → (fO m i κ.2.1 = none → ∀ h', Fk h0 h' → RK h' T κ → Q (some (.int 0)) h') → (∀ j, fO m i κ.2.1 = some j → ∀ h', Fk h0 h' → RK h' T (kP κ (some (1000000 + j))) → Q (some (.int 1)) h') → WP X mX8_findOp 0 0 23 [some (.ref 12), some (.int (nI i))] [] h Q := by
  intro m
  induction m with
  | zero =>
    intro i h hn f q k0 k1
    have hi : i = 37 := by omega
    subst hi
    refine w_iload_n dX8_findOp_23 rfl rfl ?_
    refine w_cstat dX8_findOp_24 kZ_a9 gX8_75 ?_
    refine w_clen dX8_findOp_27 kT_a9 (v := 37) rfl ?_
    refine w_icmp_ge (tgt := 64) dX8_findOp_28 (by decide) (fun c_28 => ?_) (fun c_28 => absurd c_28 (not_not_intro (by decide)))
    refine w_iconst dX8_findOp_64 (v := 0) (by decide) ?_
    refine w_iret dX8_findOp_65 (fun _ e => by cases e; decide) ?_
    exact k0 rfl _ f q
  | succ m ih =>
    intro i h hn f q k0 k1
    have hi : i < 37 := by omega
    refine w_iload_n dX8_findOp_23 rfl rfl ?_
    refine w_cstat dX8_findOp_24 kZ_a9 gX8_75 ?_
    refine w_clen dX8_findOp_27 kT_a9 (v := 37) rfl ?_
    refine w_icmp_ge (tgt := 64) dX8_findOp_28 (by decide) (fun c_28 => absurd c_28 (nI_ge (b := 37) (by omega) (by decide))) (fun c_28 => ?_)
    refine w_cstat dX8_findOp_31 kZ_a9 gX8_75 ?_
    refine w_iload_n dX8_findOp_34 rfl rfl ?_
    refine w_caal (v := .ref (1000000 + i)) dX8_findOp_35 kT_a9 (all_in hi) (all_at hi) ?_
    refine w_cget dX8_findOp_36 (kF_s9 hi) gX8_81 ?_
    refine w_aload_n dX8_findOp_39 rfl rfl ?_
    refine kx_gA q dX8_findOp_40 fX8_52 ?_
    refine w_lcmp dX8_findOp_43 ?_
    refine w_if_ne (tgt := 58) dX8_findOp_44 (by decide) (fun c_44 => ?_) (fun c_44 => ?_)
    · rw [lc_eq] at c_44
      refine w_iinc (v := (nI (i + 1))) dX8_findOp_58 rfl (nI_1 i) (by decide) ?_
      refine w_goto (tgt := 23) dX8_findOp_61 (by decide) ?_
      exact ih (i + 1) _ (by omega) f q (fun e => k0 (by rw [fO, if_neg c_44]; exact e)) (fun j e => k1 j (by rw [fO, if_neg c_44]; exact e))
    · rw [lc_eq] at c_44
      refine w_aload_n dX8_findOp_47 rfl rfl ?_
      refine w_cstat dX8_findOp_48 kZ_a9 gX8_75 ?_
      refine w_iload_n dX8_findOp_51 rfl rfl ?_
      refine w_caal (v := .ref (1000000 + i)) dX8_findOp_52 kT_a9 (all_in hi) (all_at hi) ?_
      refine kx_pS f q dX8_findOp_53 fX8_71 rfl (fun h1 f1 q1 => ?_)
      refine w_iconst dX8_findOp_56 (v := 1) (by decide) ?_
      refine w_iret dX8_findOp_57 (fun _ e => by cases e; decide) ?_
      exact k1 i (by rw [fO, if_pos c_44]) _ f1 q1

set_option maxRecDepth 20000 in
set_option maxHeartbeats 4000000 in
/-- findOp() -/
theorem T_fO {X : Nat × (Nat → Int32)} {h0 h : PH} {Q : Option Value → PH → Prop} {T : List Int32} {κ : KS} {s e : Nat} (n1 : κ.1 1 = nI e) (n3 : κ.1 3 = nI s) (hse : s ≤ e) (he : e ≤ T.length) (f : Fk h0 h) (q : RK h T κ) (k0 : (10 < e - s ∨ fO 37 0 κ.2.1 = none) → ∀ h', Fk h0 h' → RK h' T (kP κ none) → Q (some (.int 0)) h') (k1 : ¬ 10 < e - s → ∀ j, fO 37 0 κ.2.1 = some j → ∀ h', Fk h0 h' → RK h' T (kP κ (some (1000000 + j))) → Q (some (.int 1)) h') : WP X mX8_findOp 0 0 0 (en 2 [.ref 12]) [] h Q := by
  refine w_aload_n dX8_findOp_0 rfl rfl ?_
  refine w_null dX8_findOp_1 ?_
  refine kx_pN f q dX8_findOp_2 fX8_71 rfl (fun h1 f1 q1 => ?_)
  refine w_aload_n dX8_findOp_5 rfl rfl ?_
  refine kx_get1 q1 dX8_findOp_6 fX8_15 ?_
  refine w_aload_n dX8_findOp_9 rfl rfl ?_
  refine kx_get3 q1 dX8_findOp_10 fX8_27 ?_
  refine w_isub dX8_findOp_13 ?_
  refine w_bipush dX8_findOp_14 (v := 10) (by decide) ?_
  refine w_icmp_le (tgt := 21) dX8_findOp_16 (by decide) (fun c_16 => ?_) (fun c_16 => ?_)
  · have hl := q.2.1.2.1
    rw [show (kP κ none).1 = κ.1 from rfl, n1, n3, nI_sub hse, show (10 : Int32) = nI 10 from rfl, nI_leI (by omega) (by decide)] at c_16
    refine w_iconst dX8_findOp_21 (v := 0) (by decide) ?_
    refine w_istore_n dX8_findOp_22 rfl (by decide) ?_
    exact L_fO 37 0 _ rfl f1 q1 (fun e => k0 (Or.inr e)) (fun j e => k1 (by omega) j e)
  · have hl := q.2.1.2.1
    rw [show (kP κ none).1 = κ.1 from rfl, n1, n3, nI_sub hse, show (10 : Int32) = nI 10 from rfl, nI_leI (by omega) (by decide)] at c_16
    refine w_iconst dX8_findOp_19 (v := 0) (by decide) ?_
    refine w_iret dX8_findOp_20 (fun _ e => by cases e; decide) ?_
    exact k0 (Or.inl (by omega)) _ f1 q1

set_option maxRecDepth 20000 in
set_option maxHeartbeats 4000000 in
/-- findRegister() -/
theorem T_fR {X : Nat × (Nat → Int32)} {h0 h : PH} {Q : Option Value → PH → Prop} {T : List Int32} {κ : KS} {s : Nat} (n1 : κ.1 1 = nI (wd1 T s)) (n3 : κ.1 3 = nI s) (n6 : κ.2.1 = (uH T s).1) (hse : s ≤ wd1 T s) (he : wd1 T s ≤ T.length) (f : Fk h0 h) (q : RK h T κ) (k0 : uR T s = none → Q (some (.int 0)) h) (k1 : ∀ v, uR T s = some v → ∀ h', Fk h0 h' → RK h' T (kG κ 4 v) → Q (some (.int 1)) h') : WP X mX8_findRegister 0 0 0 (en 1 [.ref 12]) [] h Q := by
  refine w_aload_n dX8_findRegister_0 rfl rfl ?_
  refine kx_get1 q dX8_findRegister_1 fX8_15 ?_
  refine w_aload_n dX8_findRegister_4 rfl rfl ?_
  refine kx_get3 q dX8_findRegister_5 fX8_27 ?_
  refine w_isub dX8_findRegister_8 ?_
  refine w_iconst dX8_findRegister_9 (v := 2) (by decide) ?_
  refine w_icmp_ne (tgt := 35) dX8_findRegister_10 (by decide) (fun c_10 => ?_) (fun c_10 => ?_)
  · rw [n1, n3, nI_sub hse, show (2 : Int32) = nI 2 from rfl, nI_eq (by have := q.2.1.2.1; omega) (by decide)] at c_10
    refine w_iconst dX8_findRegister_35 (v := 0) (by decide) ?_
    refine w_iret dX8_findRegister_36 (fun _ e => by cases e; decide) ?_
    refine k0 ?_
    unfold uR; rw [if_neg c_10]
  · rw [n1, n3, nI_sub hse, show (2 : Int32) = nI 2 from rfl, nI_eq (by have := q.2.1.2.1; omega) (by decide)] at c_10
    refine w_aload_n dX8_findRegister_13 rfl rfl ?_
    refine kx_gA q dX8_findRegister_14 fX8_52 ?_
    refine w_ldc2 dX8_findRegister_17 kX8_84 ?_
    refine w_lcmp dX8_findRegister_20 ?_
    refine w_if_lt (tgt := 35) dX8_findRegister_21 (by decide) (fun c_21 => ?_) (fun c_21 => ?_)
    · rw [lc_lt, n6] at c_21
      refine w_iconst dX8_findRegister_35 (v := 0) (by decide) ?_
      refine w_iret dX8_findRegister_36 (fun _ e => by cases e; decide) ?_
      refine k0 ?_
      unfold uR; rw [if_pos c_10, if_pos c_21]
    · rw [lc_lt, n6] at c_21
      refine w_aload_n dX8_findRegister_24 rfl rfl ?_
      refine kx_gA q dX8_findRegister_25 fX8_52 ?_
      refine w_ldc2 dX8_findRegister_28 kX8_86 ?_
      refine w_lcmp dX8_findRegister_31 ?_
      refine w_if_le (tgt := 37) dX8_findRegister_32 (by decide) (fun c_32 => ?_) (fun c_32 => ?_)
      · rw [lc_le, n6] at c_32
        refine w_aload_n dX8_findRegister_37 rfl rfl ?_
        refine w_aload_n dX8_findRegister_38 rfl rfl ?_
        refine kx_gA q dX8_findRegister_39 fX8_52 ?_
        refine w_ldc2 dX8_findRegister_42 kX8_84 ?_
        refine w_lsub dX8_findRegister_45 ?_
        refine w_l2i dX8_findRegister_46 ?_
        refine kx_put4 f q dX8_findRegister_47 fX8_46 (fun h1 f1 q1 => ?_)
        refine w_iconst dX8_findRegister_50 (v := 1) (by decide) ?_
        refine w_iret dX8_findRegister_51 (fun _ e => by cases e; decide) ?_
        rw [n6] at q1
        refine k1 _ ?_ _ f1 q1
        unfold uR; rw [if_pos c_10, if_neg c_21, if_neg c_32]
      · rw [lc_le, n6] at c_32
        refine w_iconst dX8_findRegister_35 (v := 0) (by decide) ?_
        refine w_iret dX8_findRegister_36 (fun _ e => by cases e; decide) ?_
        refine k0 ?_
        unfold uR; rw [if_pos c_10, if_neg c_21, if_pos (Decidable.not_not.mp c_32)]

set_option maxRecDepth 20000 in
set_option maxHeartbeats 4000000 in
theorem L_fn5 {X : Nat × (Nat → Int32)} {h0 h : PH} {Q : Option Value → PH → Prop} {T : List Int32} {κ : KS} {s e : Nat} {b bs z x1 : Int32} (n1 : κ.1 1 = nI e) (he : e ≤ T.length) (f : Fk h0 h) (q : RK h T κ) : ∀ (m i : Nat) (a : Int32) (x : Option Value), i + m = e → (dgS T bs m i a = none → Q (some (.int 0)) h) → (∀ v, dgS T bs m i a = some v → ∀ h', Fk h0 h' → RK h' T (kG κ 4 (if z = 0 then v else -v)) → Q (some (.int 1)) h') → WP X mX8_findNumber 1 21 120 [some (.ref 12), some (.int x1), some (.int bs), some (.int (nI i)), some (.int z), some (.int a), x] [] h Q := by
  have hl := q.2.1.2.1
  intro m
  induction m with
  | zero =>
    intro i a x hn k0 k1
    refine w_iload_n dX8_findNumber_120 rfl rfl ?_
    refine w_aload_n dX8_findNumber_121 rfl rfl ?_
    refine kx_get1 q dX8_findNumber_122 fX8_15 ?_
    refine w_icmp_ge (tgt := 164) dX8_findNumber_125 (by decide) (fun c_125 => ?_) (fun c_125 => absurd c_125 (not_not_intro (by rw [n1]; exact nI_le (by omega) (by omega))))
    refine w_aload_n dX8_findNumber_164 rfl rfl ?_
    refine w_iload dX8_findNumber_165 rfl ?_
    refine w_if_eq (tgt := 176) dX8_findNumber_167 (by decide) (fun c_167 => ?_) (fun c_167 => ?_)
    · refine w_iload dX8_findNumber_176 rfl ?_
      refine kx_put4 f q dX8_findNumber_178 fX8_46 (fun h1 f1 q1 => ?_)
      refine w_iconst dX8_findNumber_181 (v := 1) (by decide) ?_
      refine w_iret dX8_findNumber_182 (fun _ e => by cases e; decide) ?_
      refine k1 a rfl _ f1 ?_
      first | rw [if_pos c_167]; exact q1 | rw [if_neg c_167]; exact q1
    · refine w_iload dX8_findNumber_170 rfl ?_
      refine w_ineg dX8_findNumber_172 ?_
      refine w_goto (tgt := 178) dX8_findNumber_173 (by decide) ?_
      refine kx_put4 f q dX8_findNumber_178 fX8_46 (fun h2 f2 q2 => ?_)
      refine w_iconst dX8_findNumber_181 (v := 1) (by decide) ?_
      refine w_iret dX8_findNumber_182 (fun _ e => by cases e; decide) ?_
      refine k1 a rfl _ f2 ?_
      first | rw [if_pos c_167]; exact q2 | rw [if_neg c_167]; exact q2
  | succ m ih =>
    intro i a x hn k0 k1
    refine w_iload_n dX8_findNumber_120 rfl rfl ?_
    refine w_aload_n dX8_findNumber_121 rfl rfl ?_
    refine kx_get1 q dX8_findNumber_122 fX8_15 ?_
    refine w_icmp_ge (tgt := 164) dX8_findNumber_125 (by decide) (fun c_125 => absurd c_125 (by rw [n1]; exact nI_ge (by omega) (by omega))) (fun c_125 => ?_)
    refine w_aload_n dX8_findNumber_128 rfl rfl ?_
    refine w_gs (b := 1) q.1 dX8_findNumber_129 fX8_9 (by decide) rfl rfl (by decide) ?_
    refine w_iload_n dX8_findNumber_132 rfl rfl ?_
    refine w_v1 (d2 := 0) (L2 := 0) dX8_findNumber_133 vX8_30 rfl (q.1.lt (by decide)) rfl (by decide) (Nat.le_of_ble_eq_true rfl) (by decide) (by decide) ?_
    refine T_byte1 q.1 q.2.1 ?_
    rw [bA_T (by omega)]
    refine k_i rfl ?_
    refine w_s1 (d2 := 0) (L2 := 0) dX8_findNumber_136 vX8_88 rfl (by decide) (Nat.le_of_ble_eq_true rfl) (by decide) (by decide) ?_
    refine T_dgI ?_
    refine k_i rfl ?_
    refine w_istore dX8_findNumber_139 (by decide) ?_
    refine w_iload dX8_findNumber_141 rfl ?_
    refine w_iload_n dX8_findNumber_143 rfl rfl ?_
    refine w_icmp_lt (tgt := 149) dX8_findNumber_144 (by decide) (fun c_144 => ?_) (fun c_144 => ?_)
    · refine w_iload dX8_findNumber_149 rfl ?_
      refine w_iload_n dX8_findNumber_151 rfl rfl ?_
      refine w_imul dX8_findNumber_152 ?_
      refine w_iload dX8_findNumber_153 rfl ?_
      refine w_iadd dX8_findNumber_155 ?_
      refine w_istore dX8_findNumber_156 (by decide) ?_
      refine w_iinc (v := (nI (i + 1))) dX8_findNumber_158 rfl (nI_1 i) (by decide) ?_
      refine w_goto (tgt := 120) dX8_findNumber_161 (by decide) ?_
      exact ih (i + 1) _ _ (by omega) (fun e9 => k0 (by rw [dgS, if_pos c_144]; exact e9)) (fun v e9 => k1 v (by rw [dgS, if_pos c_144]; exact e9))
    · refine w_iconst dX8_findNumber_147 (v := 0) (by decide) ?_
      refine w_iret dX8_findNumber_148 (fun _ e => by cases e; decide) ?_
      exact k0 (by rw [dgS, if_neg c_144])

theorem num_l {T : List Int32} {s e : Nat} (n1 : e ≤ njS T s) : numS T s e = none := by unfold numS; rw [if_pos n1]
theorem num_m {T : List Int32} {s e : Nat} (n2 : (if nbS T s = 16 then 5 else 6) < e - njS T s) : numS T s e = none := by
  unfold numS
  by_cases c : e ≤ njS T s
  · rw [if_pos c]
  · rw [if_neg c, if_pos n2]
theorem num_o {T : List Int32} {s e : Nat} (n1 : ¬ e ≤ njS T s) (n2 : ¬ (if nbS T s = 16 then 5 else 6) < e - njS T s) {r : Option Int32} (hr : dgS T (nbS T s) (e - njS T s) (njS T s) 0 = r) : numS T s e = r.map (fun v => if bT T (niS T s) = 45 then -v else v) := by
  subst hr
  unfold numS
  rw [if_neg n1, if_neg n2]
  cases dgS T (nbS T s) (e - njS T s) (njS T s) 0 <;> rfl
theorem nj_le (T : List Int32) (s : Nat) : njS T s ≤ s + 2 := by
  unfold njS niS
  split <;> split <;> (try split) <;> omega
theorem nj_ge (T : List Int32) (s : Nat) : s ≤ njS T s ∧ s ≤ niS T s ∧ niS T s ≤ s + 1 := by
  unfold njS niS
  refine ⟨?_, ?_, ?_⟩ <;> split <;> (try split) <;> (try split) <;> omega
set_option maxRecDepth 20000 in
set_option maxHeartbeats 4000000 in
theorem L_fn4 {X : Nat × (Nat → Int32)} {h0 h : PH} {Q : Option Value → PH → Prop} {T : List Int32} {κ : KS} {s e : Nat} {b x1 : Int32} (n1 : κ.1 1 = nI e) (n3 : κ.1 3 = nI s) (hse : s ≤ e) (he : e ≤ T.length) (f : Fk h0 h) (q : RK h T κ) (k0 : numS T s e = none → Q (some (.int 0)) h) (k1 : ∀ v, numS T s e = some v → ∀ h', Fk h0 h' → RK h' T (kG κ 4 v) → Q (some (.int 1)) h') {x5 x6 : Option Value} : WP X mX8_findNumber 1 21 86 [some (.ref 12), some (.int x1), some (.int (nbS T s)), some (.int (nI (njS T s))), some (.int (if bT T (niS T s) = 45 then 1 else 0)), x5, x6] [] h Q := by
  have hl := q.2.1.2.1
  have hj := nj_le T s
  refine w_iload_n dX8_findNumber_86 rfl rfl ?_
  refine w_aload_n dX8_findNumber_87 rfl rfl ?_
  refine kx_get1 q dX8_findNumber_88 fX8_15 ?_
  refine w_icmp_ge (tgt := 115) dX8_findNumber_91 (by decide) (fun c_91 => ?_) (fun c_91 => ?_)
  · rw [n1, nI_leI (by omega) (by omega)] at c_91
    refine w_iconst dX8_findNumber_115 (v := 0) (by decide) ?_
    refine w_iret dX8_findNumber_116 (fun _ e => by cases e; decide) ?_
    exact k0 (num_l c_91)
  · rw [n1, nI_leI (by omega) (by omega)] at c_91
    refine w_aload_n dX8_findNumber_94 rfl rfl ?_
    refine kx_get1 q dX8_findNumber_95 fX8_15 ?_
    refine w_iload_n dX8_findNumber_98 rfl rfl ?_
    refine w_isub dX8_findNumber_99 ?_
    refine w_iload_n dX8_findNumber_100 rfl rfl ?_
    refine w_bipush dX8_findNumber_101 (v := 16) (by decide) ?_
    refine w_icmp_ne (tgt := 110) dX8_findNumber_103 (by decide) (fun c_103 => ?_) (fun c_103 => ?_)
    · refine w_bipush dX8_findNumber_110 (v := 6) (by decide) ?_
      refine w_icmp_le (tgt := 117) dX8_findNumber_112 (by decide) (fun c_112 => ?_) (fun c_112 => ?_)
      · rw [n1, nI_sub (by omega)] at c_112
        refine w_iconst dX8_findNumber_117 (v := 0) (by decide) ?_
        refine w_istore dX8_findNumber_118 (by decide) ?_
        rw [show (6 : Int32) = nI 6 from rfl, nI_leI (by omega) (by decide)] at c_112
        have h9 : ¬ (if nbS T s = 16 then 5 else 6) < e - njS T s := by rw [if_neg c_103]; omega
        exact L_fn5 (s := s) (b := 0) n1 he f q (e - njS T s) (njS T s) 0 _ (by omega) (fun e9 => k0 (num_o c_91 h9 e9)) (fun v e9 h' f' q' => k1 _ (num_o c_91 h9 e9) h' f' (by by_cases c : bT T (niS T s) = 45 <;> simpa [c] using q'))
      · rw [n1, nI_sub (by omega)] at c_112
        refine w_iconst dX8_findNumber_115 (v := 0) (by decide) ?_
        refine w_iret dX8_findNumber_116 (fun _ e => by cases e; decide) ?_
        rw [show (6 : Int32) = nI 6 from rfl, nI_leI (by omega) (by decide)] at c_112; exact k0 (num_m (by rw [if_neg c_103]; omega))
    · refine w_iconst dX8_findNumber_106 (v := 5) (by decide) ?_
      refine w_goto (tgt := 112) dX8_findNumber_107 (by decide) ?_
      refine w_icmp_le (tgt := 117) dX8_findNumber_112 (by decide) (fun c_112 => ?_) (fun c_112 => ?_)
      · rw [n1, nI_sub (by omega)] at c_112
        refine w_iconst dX8_findNumber_117 (v := 0) (by decide) ?_
        refine w_istore dX8_findNumber_118 (by decide) ?_
        rw [show (5 : Int32) = nI 5 from rfl, nI_leI (by omega) (by decide)] at c_112
        have h9 : ¬ (if nbS T s = 16 then 5 else 6) < e - njS T s := by rw [if_pos c_103]; omega
        exact L_fn5 (s := s) (b := 0) n1 he f q (e - njS T s) (njS T s) 0 _ (by omega) (fun e9 => k0 (num_o c_91 h9 e9)) (fun v e9 h' f' q' => k1 _ (num_o c_91 h9 e9) h' f' (by by_cases c : bT T (niS T s) = 45 <;> simpa [c] using q'))
      · rw [n1, nI_sub (by omega)] at c_112
        refine w_iconst dX8_findNumber_115 (v := 0) (by decide) ?_
        refine w_iret dX8_findNumber_116 (fun _ e => by cases e; decide) ?_
        rw [show (5 : Int32) = nI 5 from rfl, nI_leI (by omega) (by decide)] at c_112; exact k0 (num_m (by rw [if_pos c_103]; omega))

set_option maxRecDepth 20000 in
set_option maxHeartbeats 4000000 in
theorem L_fn3 {X : Nat × (Nat → Int32)} {h0 h : PH} {Q : Option Value → PH → Prop} {T : List Int32} {κ : KS} {s e : Nat} {x1 : Int32} (n1 : κ.1 1 = nI e) (n3 : κ.1 3 = nI s) (hse : s ≤ e) (he : e ≤ T.length) (f : Fk h0 h) (q : RK h T κ) (k0 : numS T s e = none → Q (some (.int 0)) h) (k1 : ∀ v, numS T s e = some v → ∀ h', Fk h0 h' → RK h' T (kG κ 4 v) → Q (some (.int 1)) h') {x4 x5 x6 : Option Value} : WP X mX8_findNumber 1 21 58 [some (.ref 12), some (.int x1), some (.int (nbS T s)), some (.int (nI (niS T s))), x4, x5, x6] [] h Q := by
  have hl := q.2.1.2.1
  have hj := nj_ge T s
  have k9 := L_fn4 (X := X) (b := 0) (x1 := x1) (x5 := x5) (x6 := x6) n1 n3 hse he f q k0 k1
  refine w_aload_n dX8_findNumber_58 rfl rfl ?_
  refine w_gs (b := 1) q.1 dX8_findNumber_59 fX8_9 (by decide) rfl rfl (by decide) ?_
  refine w_iload_n dX8_findNumber_62 rfl rfl ?_
  refine w_v1 (d2 := 0) (L2 := 0) dX8_findNumber_63 vX8_30 rfl (q.1.lt (by decide)) rfl (by decide) (Nat.le_of_ble_eq_true rfl) (by decide) (by decide) ?_
  refine T_byte1 q.1 q.2.1 ?_
  rw [bA_T (by omega)]
  refine k_i rfl ?_
  refine w_bipush dX8_findNumber_66 (v := 45) (by decide) ?_
  refine w_icmp_ne (tgt := 75) dX8_findNumber_68 (by decide) (fun c_68 => ?_) (fun c_68 => ?_)
  · refine w_iconst dX8_findNumber_75 (v := 0) (by decide) ?_
    refine w_istore dX8_findNumber_76 (by decide) ?_
    refine w_iload dX8_findNumber_78 rfl ?_
    refine w_if_eq (tgt := 86) dX8_findNumber_80 (by decide) (fun c_80 => ?_) (fun c_80 => absurd c_80 (by decide))
    rw [if_neg c_68, show njS T s = niS T s by unfold njS; rw [if_neg c_68]] at k9; exact k9
  · refine w_iconst dX8_findNumber_71 (v := 1) (by decide) ?_
    refine w_goto (tgt := 76) dX8_findNumber_72 (by decide) ?_
    refine w_istore dX8_findNumber_76 (by decide) ?_
    refine w_iload dX8_findNumber_78 rfl ?_
    refine w_if_eq (tgt := 86) dX8_findNumber_80 (by decide) (fun c_80 => absurd c_80 (by decide)) (fun c_80 => ?_)
    refine w_iinc (v := (nI (niS T s + 1))) dX8_findNumber_83 rfl (nI_1 _) (by decide) ?_
    rw [if_pos c_68, show njS T s = niS T s + 1 by unfold njS; rw [if_pos c_68]] at k9; exact k9

set_option maxRecDepth 20000 in
set_option maxHeartbeats 4000000 in
theorem L_fn2 {X : Nat × (Nat → Int32)} {h0 h : PH} {Q : Option Value → PH → Prop} {T : List Int32} {κ : KS} {s e : Nat} (n1 : κ.1 1 = nI e) (n3 : κ.1 3 = nI s) (hse : s ≤ e) (he : e ≤ T.length) (f : Fk h0 h) (q : RK h T κ) (k0 : numS T s e = none → Q (some (.int 0)) h) (k1 : ∀ v, numS T s e = some v → ∀ h', Fk h0 h' → RK h' T (kG κ 4 v) → Q (some (.int 1)) h') {x3 x4 x5 x6 : Option Value} : WP X mX8_findNumber 1 21 32 [some (.ref 12), some (.int (bT T s)), some (.int (nbS T s)), x3, x4, x5, x6] [] h Q := by
  have k9 := L_fn3 (X := X) (x1 := bT T s) (x4 := x4) (x5 := x5) (x6 := x6) n1 n3 hse he f q k0 k1
  refine w_iload_n dX8_findNumber_32 rfl rfl ?_
  refine w_bipush dX8_findNumber_33 (v := 16) (by decide) ?_
  refine w_icmp_eq (tgt := 44) dX8_findNumber_35 (by decide) (fun c_35 => ?_) (fun c_35 => ?_)
  · refine w_aload_n dX8_findNumber_44 rfl rfl ?_
    refine kx_get3 q dX8_findNumber_45 fX8_27 ?_
    refine w_iconst dX8_findNumber_48 (v := 1) (by decide) ?_
    refine w_iadd dX8_findNumber_49 ?_
    refine w_goto (tgt := 57) dX8_findNumber_50 (by decide) ?_
    refine w_istore_n dX8_findNumber_57 rfl (by decide) ?_
    rw [show niS T s = s + 1 by unfold niS; rw [if_pos c_35], ← nI_1, ← n3] at k9; exact k9
  · refine w_iload_n dX8_findNumber_38 rfl rfl ?_
    refine w_bipush dX8_findNumber_39 (v := 35) (by decide) ?_
    refine w_icmp_ne (tgt := 53) dX8_findNumber_41 (by decide) (fun c_41 => ?_) (fun c_41 => ?_)
    · refine w_aload_n dX8_findNumber_53 rfl rfl ?_
      refine kx_get3 q dX8_findNumber_54 fX8_27 ?_
      refine w_istore_n dX8_findNumber_57 rfl (by decide) ?_
      rw [show niS T s = s by unfold niS; rw [if_neg c_35, if_neg c_41], ← n3] at k9; exact k9
    · refine w_aload_n dX8_findNumber_44 rfl rfl ?_
      refine kx_get3 q dX8_findNumber_45 fX8_27 ?_
      refine w_iconst dX8_findNumber_48 (v := 1) (by decide) ?_
      refine w_iadd dX8_findNumber_49 ?_
      refine w_goto (tgt := 57) dX8_findNumber_50 (by decide) ?_
      refine w_istore_n dX8_findNumber_57 rfl (by decide) ?_
      rw [show niS T s = s + 1 by unfold niS; rw [if_neg c_35, if_pos c_41], ← nI_1, ← n3] at k9; exact k9

set_option maxRecDepth 20000 in
set_option maxHeartbeats 4000000 in
/-- findNumber() -/
theorem T_fN {X : Nat × (Nat → Int32)} {h0 h : PH} {Q : Option Value → PH → Prop} {T : List Int32} {κ : KS} {s e : Nat} (n1 : κ.1 1 = nI e) (n3 : κ.1 3 = nI s) (hse : s ≤ e) (he : e ≤ T.length) (f : Fk h0 h) (q : RK h T κ) (k0 : numS T s e = none → Q (some (.int 0)) h) (k1 : ∀ v, numS T s e = some v → ∀ h', Fk h0 h' → RK h' T (kG κ 4 v) → Q (some (.int 1)) h') : WP X mX8_findNumber 1 21 0 (en 7 [.ref 12]) [] h Q := by
  have k9 := fun x3 x4 x5 x6 => L_fn2 (X := X) (x3 := x3) (x4 := x4) (x5 := x5) (x6 := x6) n1 n3 hse he f q k0 k1
  replace k9 := k9 none none none none
  refine w_aload_n dX8_findNumber_0 rfl rfl ?_
  refine w_gs (b := 1) q.1 dX8_findNumber_1 fX8_9 (by decide) rfl rfl (by decide) ?_
  refine w_aload_n dX8_findNumber_4 rfl rfl ?_
  refine kx_get3 q dX8_findNumber_5 fX8_27 ?_
  refine w_v1 (d2 := 0) (L2 := 0) dX8_findNumber_8 vX8_30 rfl (q.1.lt (by decide)) rfl (by decide) (Nat.le_of_ble_eq_true rfl) (by decide) (by decide) ?_
  refine T_byte1 q.1 q.2.1 ?_
  rw [n3, bA_T (by have := q.2.1.2.1; omega)]
  refine k_i rfl ?_
  refine w_istore_n dX8_findNumber_11 rfl (by decide) ?_
  refine w_iload_n dX8_findNumber_12 rfl rfl ?_
  refine w_bipush dX8_findNumber_13 (v := 88) (by decide) ?_
  refine w_icmp_eq (tgt := 24) dX8_findNumber_15 (by decide) (fun c_15 => ?_) (fun c_15 => ?_)
  · refine w_bipush dX8_findNumber_24 (v := 16) (by decide) ?_
    refine w_goto (tgt := 31) dX8_findNumber_26 (by decide) ?_
    refine w_istore_n dX8_findNumber_31 rfl (by decide) ?_
    rw [show nbS T s = 16 by unfold nbS; rw [if_pos c_15]] at k9; exact k9
  · refine w_iload_n dX8_findNumber_18 rfl rfl ?_
    refine w_bipush dX8_findNumber_19 (v := 120) (by decide) ?_
    refine w_icmp_ne (tgt := 29) dX8_findNumber_21 (by decide) (fun c_21 => ?_) (fun c_21 => ?_)
    · refine w_bipush dX8_findNumber_29 (v := 10) (by decide) ?_
      refine w_istore_n dX8_findNumber_31 rfl (by decide) ?_
      rw [show nbS T s = 10 by unfold nbS; rw [if_neg c_15, if_neg c_21]] at k9; exact k9
    · refine w_bipush dX8_findNumber_24 (v := 16) (by decide) ?_
      refine w_goto (tgt := 31) dX8_findNumber_26 (by decide) ?_
      refine w_istore_n dX8_findNumber_31 rfl (by decide) ?_
      rw [show nbS T s = 16 by unfold nbS; rw [if_neg c_15, if_pos c_21]] at k9; exact k9

