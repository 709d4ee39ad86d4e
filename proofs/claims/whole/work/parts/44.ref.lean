/-! THE REFERENCE READS: names and labels -/
theorem bf_0 {b : Bool} (h : (if b = true then (1 : Int32) else 0) = 0) : b = false := by
  cases b
  · rfl
  · exact absurd h (by decide)
theorem bf_1 {b : Bool} (h : ¬ (if b = true then (1 : Int32) else 0) = 0) : b = true := by
  cases b
  · exact absurd rfl h
  · rfl
def alF (f : Nat → Bool) : Nat → Nat → Bool
  | 0, _ => true
  | m + 1, i => f i && alF f m (i + 1)
theorem alF_e (f : Nat → Bool) : ∀ m i, alF f m i = (List.range m).all (fun j => f (i + j))
  | 0, _ => rfl
  | m + 1, i => by
    rw [alF, alF_e f m (i + 1), List.range_succ_eq_map, List.all_cons, List.all_map]
    congr 1
    apply congrArg (fun g => (List.range m).all g)
    funext j
    show f (i + 1 + j) = f (i + (j + 1))
    rw [Nat.add_assoc, Nat.add_comm 1 j]
def nmG (T : List Int32) (s l : Nat) : Nat → Nat → Option Nat
  | 0, _ => none
  | m + 1, k => if nmIs T s l k then some k else nmG T s l m (k + 1)
theorem nmG_e (T : List Int32) (s l : Nat) : ∀ m k, nmG T s l m k = (List.range' k m).find? (fun k => nmIs T s l k)
  | 0, _ => rfl
  | m + 1, k => by
    rw [nmG, nmG_e T s l m (k + 1), List.range'_succ, List.find?_cons]
    cases nmIs T s l k <;> rfl
theorem nmF_e (T : List Int32) (s l : Nat) : nmF T s l = nmG T s l 35 0 := by
  rw [nmG_e]; unfold nmF; rw [List.range_eq_range']
theorem nm_g : (sB 11).length = nmQk 35 ∧ ∀ k, k < 35 → nmQk k + nmN k < (sB 11).length := by decide +kernel
theorem nmC_s (i : Nat) : nmC i = (sB 11).getD i 0 := rfl
def nmA (T : List Int32) (s q : Nat) (i : Nat) : Bool := decide (nmC (q + i) = gr (bT T (s + i)))
theorem nmIs_a {T : List Int32} {s m k : Nat} : nmIs T s m k = (decide (nmN k = m) && alF (nmA T s (nmQk k)) m 0) := by
  unfold nmIs
  rw [alF_e]
  congr 1
  apply congrArg (fun g => (List.range m).all g)
  funext j
  show _ = nmA T s (nmQk k) (0 + j)
  rw [Nat.zero_add]; rfl
theorem kR_n : (RX11, 235, "ADD AND NOT LD LDI LEA ST STI LDR STR JMP JSR JSRR TRAP RET RTI GETC OUT PUTS IN PUTSP HALT BR BRP BRZ BRZP BRN BRNP BRNZ BRNZP .ORIG .FILL .BLKW .STRINGZ .END ", 1001011) ∈ kR := by decide +kernel
set_option maxRecDepth 20000 in
set_option maxHeartbeats 4000000 in
theorem L_nm1 {X : Nat × (Nat → Int32)} {h : PH} {Q : Option Value → PH → Prop} {k9 : Nat} (hk : k9 < 35) {x4 x5 : Option Value} (kk : WP X mX11_name 4 85 42 [some (.ref 25), some (.int (nI k9)), some (.int (nI (nmQk k9))), some (.int (nI (nmN k9))), x4, x5] [] h Q) : ∀ (m n : Nat), n + m = nmN k9 → WP X mX11_name 4 85 23 [some (.ref 25), some (.int (nI k9)), some (.int (nI (nmQk k9))), some (.int (nI n)), x4, x5] [] h Q := by
  have ga := nm_a k9 hk
  have gg := nm_g.2 k9 hk
  intro m
  induction m with
  | zero =>
    intro n hn
    have hn2 : n = nmN k9 := by omega
    subst hn2
    refine w_ldcS dX11_name_23 kR_n ?_
    refine w_iload_n dX11_name_25 rfl rfl ?_
    refine w_iload_n dX11_name_26 rfl rfl ?_
    refine w_iadd dX11_name_27 ?_
    rw [nI_add]
    refine w_callC (d2 := 3) (L2 := 64) (M2 := mJ0_charAt_5068e) (As := [.int (nI (nmQk k9 + nmN k9))]) dX11_name_28 oJ0_charAt_5068e lX11_242 iJ0_charAt_5068e sJ0_charAt_5068e (kO_s9 (i := 11) (by decide)) rfl rfl (fun v hv => by simp only [List.mem_cons, List.not_mem_nil, or_false] at hv; rw [hv]; rfl) (Nat.le_of_ble_eq_true rfl) (Nat.le_of_ble_eq_true rfl) (by decide) (by decide) ?_
    refine T_char (j := 11) (i := nmQk k9 + nmN k9) (by decide) (gg) ?_
    refine k_i rfl ?_
    refine w_bipush dX11_name_31 (v := 32) (by decide) ?_
    refine w_icmp_eq (tgt := 42) dX11_name_33 (by decide) (fun c_33 => ?_) (fun c_33 => absurd c_33 (not_not_intro (by rw [← nmC_s]; exact ga.2.1)))
    exact kk
  | succ m ih =>
    intro n hn
    refine w_ldcS dX11_name_23 kR_n ?_
    refine w_iload_n dX11_name_25 rfl rfl ?_
    refine w_iload_n dX11_name_26 rfl rfl ?_
    refine w_iadd dX11_name_27 ?_
    rw [nI_add]
    refine w_callC (d2 := 3) (L2 := 64) (M2 := mJ0_charAt_5068e) (As := [.int (nI (nmQk k9 + n))]) dX11_name_28 oJ0_charAt_5068e lX11_242 iJ0_charAt_5068e sJ0_charAt_5068e (kO_s9 (i := 11) (by decide)) rfl rfl (fun v hv => by simp only [List.mem_cons, List.not_mem_nil, or_false] at hv; rw [hv]; rfl) (Nat.le_of_ble_eq_true rfl) (Nat.le_of_ble_eq_true rfl) (by decide) (by decide) ?_
    refine T_char (j := 11) (i := nmQk k9 + n) (by decide) (by omega) ?_
    refine k_i rfl ?_
    refine w_bipush dX11_name_31 (v := 32) (by decide) ?_
    refine w_icmp_eq (tgt := 42) dX11_name_33 (by decide) (fun c_33 => absurd c_33 (by rw [← nmC_s]; exact (ga.1 n (by omega)).2)) (fun c_33 => ?_)
    refine w_iinc (v := (nI (n + 1))) dX11_name_36 rfl (nI_1 n) (by decide) ?_
    refine w_goto (tgt := 23) dX11_name_39 (by decide) ?_
    exact ih (n + 1) (by omega)

set_option maxRecDepth 20000 in
set_option maxHeartbeats 4000000 in
theorem L_nm2 {X : Nat × (Nat → Int32)} {h : PH} {Q : Option Value → PH → Prop} {T : List Int32} {ψ : Nat → Nat → Int32} {s : Nat} {k9 : Nat} (hk : k9 < 35) (hs : s ≤ 4000) (e2 : ψ 25 42 = nI s) (q : RU h T ψ) : ∀ (m i : Nat) (is9 : Int32), (is9 = 0 ∨ is9 = 1) → i + m = nmN k9 → (is9 = 1 → alF (nmA T s (nmQk k9)) m i = true → ∀ x, WP X mX11_name 4 85 115 [some (.ref 25), some (.int (nI k9)), some (.int (nI (nmQk k9))), some (.int (nI (nmN k9))), some (.int 1), x] [] h Q) → ((is9 = 0 ∨ alF (nmA T s (nmQk k9)) m i = false) → ∀ x, WP X mX11_name 4 85 115 [some (.ref 25), some (.int (nI k9)), some (.int (nI (nmQk k9))), some (.int (nI (nmN k9))), some (.int 0), x] [] h Q) → WP X mX11_name 4 85 65 [some (.ref 25), some (.int (nI k9)), some (.int (nI (nmQk k9))), some (.int (nI (nmN k9))), some (.int is9), some (.int (nI i))] [] h Q := by
  have ga := nm_a k9 hk
  have gg := nm_g.2 k9 hk
  intro m
  induction m with
  | zero =>
    intro i is9 hi hn ky kn
    refine w_iload dX11_name_65 rfl ?_
    refine w_iload_n dX11_name_67 rfl rfl ?_
    refine w_icmp_ge (tgt := 115) dX11_name_68 (by decide) (fun c_68 => ?_) (fun c_68 => absurd c_68 (not_not_intro (nI_le (by omega) (by omega))))
    rcases hi with c | c
    · subst c; exact kn (Or.inl rfl) _
    · subst c; exact ky rfl rfl _
  | succ m ih =>
    intro i is9 hi hn ky kn
    refine w_iload dX11_name_65 rfl ?_
    refine w_iload_n dX11_name_67 rfl rfl ?_
    refine w_icmp_ge (tgt := 115) dX11_name_68 (by decide) (fun c_68 => absurd c_68 (nI_ge (by omega) (by omega))) (fun c_68 => ?_)
    refine w_iload dX11_name_71 rfl ?_
    refine w_if_eq (tgt := 115) dX11_name_73 (by decide) (fun c_73 => ?_) (fun c_73 => ?_)
    · have c0 : is9 = 0 := c_73
      subst c0; exact kn (Or.inl rfl) _
    · have i1 : is9 = 1 := hi.resolve_left c_73
      subst i1
      refine w_ldcS dX11_name_76 kR_n ?_
      refine w_iload_n dX11_name_78 rfl rfl ?_
      refine w_iload dX11_name_79 rfl ?_
      refine w_iadd dX11_name_81 ?_
      rw [nI_add]
      refine w_callC (d2 := 3) (L2 := 64) (M2 := mJ0_charAt_5068e) (As := [.int (nI (nmQk k9 + i))]) dX11_name_82 oJ0_charAt_5068e lX11_242 iJ0_charAt_5068e sJ0_charAt_5068e (kO_s9 (i := 11) (by decide)) rfl rfl (fun v hv => by simp only [List.mem_cons, List.not_mem_nil, or_false] at hv; rw [hv]; rfl) (Nat.le_of_ble_eq_true rfl) (Nat.le_of_ble_eq_true rfl) (by decide) (by decide) ?_
      refine T_char (j := 11) (i := nmQk k9 + i) (by decide) (by omega) ?_
      refine k_i rfl ?_
      refine w_aload_n dX11_name_85 rfl rfl ?_
      refine w_aload_n dX11_name_86 rfl rfl ?_
      refine u_get (k := 42) (by decide) q dX11_name_87 fX11_211 ?_
      refine w_iload dX11_name_90 rfl ?_
      refine w_iadd dX11_name_92 ?_
      refine w_v1 (d2 := 0) (L2 := 0) dX11_name_93 vX11_205 rfl (q.1.lt (by decide)) rfl (by decide) (Nat.le_of_ble_eq_true rfl) (by decide) (by decide) ?_
      rw [e2, nI_add]
      refine T_sign (by omega) q ?_
      refine k_i rfl ?_
      refine w_s1 (d2 := 0) (L2 := 0) dX11_name_96 vX11_193 rfl (by decide) (Nat.le_of_ble_eq_true rfl) (by decide) (by decide) ?_
      refine T_gr ?_
      refine k_i rfl ?_
      refine w_icmp_ne (tgt := 106) dX11_name_99 (by decide) (fun c_99 => ?_) (fun c_99 => ?_)
      · refine w_iconst dX11_name_106 (v := 0) (by decide) ?_
        refine w_istore dX11_name_107 (by decide) ?_
        refine w_iinc (v := (nI (i + 1))) dX11_name_109 rfl (nI_1 i) (by decide) ?_
        refine w_goto (tgt := 65) dX11_name_112 (by decide) ?_
        have na : nmA T s (nmQk k9) i = false := decide_eq_false c_99
        exact ih (i + 1) 0 (Or.inl rfl) (by omega) (fun e => absurd e (by decide)) (fun _ => kn (Or.inr (by rw [alF, na]; rfl)))
      · refine w_iconst dX11_name_102 (v := 1) (by decide) ?_
        refine w_goto (tgt := 107) dX11_name_103 (by decide) ?_
        refine w_istore dX11_name_107 (by decide) ?_
        refine w_iinc (v := (nI (i + 1))) dX11_name_109 rfl (nI_1 i) (by decide) ?_
        refine w_goto (tgt := 65) dX11_name_112 (by decide) ?_
        have na : nmA T s (nmQk k9) i = true := decide_eq_true c_99
        exact ih (i + 1) 1 (Or.inr rfl) (by omega) (fun e1 e => ky rfl (by rw [alF, na]; exact e)) (fun e => kn (Or.inr (by rw [alF, na]; exact e.resolve_left (by decide))))

set_option maxRecDepth 20000 in
set_option maxHeartbeats 4000000 in
theorem L_nm3 {X : Nat × (Nat → Int32)} {h : PH} {Q : Option Value → PH → Prop} {T : List Int32} {ψ : Nat → Nat → Int32} {s : Nat} (hs : s ≤ 4000) (hw : s ≤ wd1 T s) (hw2 : wd1 T s ≤ 4000) (e1 : ψ 25 41 = 1) (e2 : ψ 25 42 = nI s) (e3 : ψ 25 43 = nI (wd1 T s)) (q : RU h T ψ) : ∀ (m k9 : Nat) (x3 x4 x5 : Option Value), k9 + m = 35 → (∀ j, nmG T s (wd1 T s - s) m k9 = some j → Q (some (.int (nI j))) h) → (nmG T s (wd1 T s - s) m k9 = none → Q (some (.int (-1))) h) → WP X mX11_name 4 85 4 [some (.ref 25), some (.int (nI k9)), some (.int (nI (nmQk k9))), x3, x4, x5] [] h Q := by
  intro m
  induction m with
  | zero =>
    intro k9 x3 x4 x5 hn k1 k0
    have hk : k9 = 35 := by omega
    subst hk
    refine w_aload_n dX11_name_4 rfl rfl ?_
    refine u_get (k := 41) (by decide) q dX11_name_5 fX11_214 ?_
    refine w_iconst dX11_name_8 (v := 1) (by decide) ?_
    refine w_icmp_ne (tgt := 134) dX11_name_9 (by decide) (fun c_9 => absurd c_9 (not_not_intro e1)) (fun c_9 => ?_)
    refine w_iload_n dX11_name_12 rfl rfl ?_
    refine w_ldcS dX11_name_13 kR_n ?_
    refine w_callC (d2 := 1) (L2 := 20) (M2 := mJ0_length_8abf5) (As := []) dX11_name_15 oJ0_length_8abf5 lX11_237 iJ0_length_8abf5 sJ0_length_8abf5 (kO_s9 (i := 11) (by decide)) rfl rfl (fun v hv => by cases hv) (by decide) (Nat.le_of_ble_eq_true rfl) (by decide) (by decide) ?_
    refine T_slen (j := 11) (by decide) ?_
    refine k_i rfl ?_
    refine w_icmp_ge (tgt := 134) dX11_name_18 (by decide) (fun c_18 => ?_) (fun c_18 => absurd c_18 (not_not_intro (by rw [nm_g.1]; exact Int32.le_refl _)))
    refine w_iconst dX11_name_134 (v := (-1)) (by decide) ?_
    refine w_iret dX11_name_135 (fun _ e => by cases e; rfl) ?_
    exact k0 rfl
  | succ m ih =>
    intro k9 x3 x4 x5 hn k1 k0
    have hk : k9 < 35 := by omega
    have gg := nm_g.2 k9 hk
    have g35 : (sB 11).length < 2147483648 := (sB_ok 11 (by decide)).1
    refine w_aload_n dX11_name_4 rfl rfl ?_
    refine u_get (k := 41) (by decide) q dX11_name_5 fX11_214 ?_
    refine w_iconst dX11_name_8 (v := 1) (by decide) ?_
    refine w_icmp_ne (tgt := 134) dX11_name_9 (by decide) (fun c_9 => absurd c_9 (not_not_intro e1)) (fun c_9 => ?_)
    refine w_iload_n dX11_name_12 rfl rfl ?_
    refine w_ldcS dX11_name_13 kR_n ?_
    refine w_callC (d2 := 1) (L2 := 20) (M2 := mJ0_length_8abf5) (As := []) dX11_name_15 oJ0_length_8abf5 lX11_237 iJ0_length_8abf5 sJ0_length_8abf5 (kO_s9 (i := 11) (by decide)) rfl rfl (fun v hv => by cases hv) (by decide) (Nat.le_of_ble_eq_true rfl) (by decide) (by decide) ?_
    refine T_slen (j := 11) (by decide) ?_
    refine k_i rfl ?_
    refine w_icmp_ge (tgt := 134) dX11_name_18 (by decide) (fun c_18 => absurd c_18 (nI_ge (by omega) (by omega))) (fun c_18 => ?_)
    refine w_iconst dX11_name_21 (v := 0) (by decide) ?_
    refine w_istore_n dX11_name_22 rfl (by decide) ?_
    refine L_nm1 hk ?_ (nmN k9) 0 (by omega)
    have ga := nm_a k9 hk
    have nx9 : ∀ x4 x5, (nmIs T s (wd1 T s - s) k9 = false) → WP X mX11_name 4 85 122 [some (.ref 25), some (.int (nI k9)), some (.int (nI (nmQk k9))), some (.int (nI (nmN k9))), x4, x5] [] h Q := by
      intro x4 x5 hf
      refine w_iload_n dX11_name_122 rfl rfl ?_
      refine w_iload_n dX11_name_123 rfl rfl ?_
      refine w_iconst dX11_name_124 (v := 1) (by decide) ?_
      refine w_iadd dX11_name_125 ?_
      refine w_iadd dX11_name_126 ?_
      refine w_istore_n dX11_name_127 rfl (by decide) ?_
      refine w_iinc (v := (nI (k9 + 1))) dX11_name_128 rfl (nI_1 k9) (by decide) ?_
      refine w_goto (tgt := 4) dX11_name_131 (by decide) ?_
      rw [nI_1, nI_add, show nmQk k9 + (nmN k9 + 1) = nmQk (k9 + 1) by rw [ga.2.2.1]; omega]
      exact ih (k9 + 1) _ _ _ (by omega) (fun j e => k1 j (by rw [nmG, if_neg (by rw [hf]; decide)]; exact e)) (fun e => k0 (by rw [nmG, if_neg (by rw [hf]; decide)]; exact e))
    refine w_iload_n dX11_name_42 rfl rfl ?_
    refine w_aload_n dX11_name_43 rfl rfl ?_
    refine u_get (k := 43) (by decide) q dX11_name_44 fX11_223 ?_
    refine w_aload_n dX11_name_47 rfl rfl ?_
    refine u_get (k := 42) (by decide) q dX11_name_48 fX11_211 ?_
    refine w_isub dX11_name_51 ?_
    refine w_icmp_ne (tgt := 59) dX11_name_52 (by decide) (fun c_52 => ?_) (fun c_52 => ?_)
    · rw [e3, e2, nI_sub hw, nI_eq (by omega) (by omega)] at c_52
      refine w_iconst dX11_name_59 (v := 0) (by decide) ?_
      refine w_istore dX11_name_60 (by decide) ?_
      refine w_iconst dX11_name_62 (v := 0) (by decide) ?_
      refine w_istore dX11_name_63 (by decide) ?_
      refine L_nm2 hk hs e2 q (nmN k9) 0 0 (Or.inl rfl) (by omega) (fun e => absurd e (by decide)) (fun _ x => ?_)
      refine w_iload dX11_name_115 rfl ?_
      refine w_if_eq (tgt := 122) dX11_name_117 (by decide) (fun c_117 => ?_) (fun c_117 => absurd c_117 (by decide))
      exact nx9 _ _ (by rw [nmIs_a, decide_eq_false c_52]; rfl)
    · rw [e3, e2, nI_sub hw, nI_eq (by omega) (by omega)] at c_52
      refine w_iconst dX11_name_55 (v := 1) (by decide) ?_
      refine w_goto (tgt := 60) dX11_name_56 (by decide) ?_
      refine w_istore dX11_name_60 (by decide) ?_
      refine w_iconst dX11_name_62 (v := 0) (by decide) ?_
      refine w_istore dX11_name_63 (by decide) ?_
      refine L_nm2 hk hs e2 q (nmN k9) 0 1 (Or.inr rfl) (by omega) (fun _ e x => ?_) (fun e x => ?_)
      · refine w_iload dX11_name_115 rfl ?_
        refine w_if_eq (tgt := 122) dX11_name_117 (by decide) (fun c_117 => absurd c_117 (by decide)) (fun c_117 => ?_)
        refine w_iload_n dX11_name_120 rfl rfl ?_
        refine w_iret dX11_name_121 (fun _ e => by cases e; rfl) ?_
        exact k1 k9 (by rw [nmG, if_pos (by rw [nmIs_a, decide_eq_true c_52, ← c_52, e]; rfl)])
      · refine w_iload dX11_name_115 rfl ?_
        refine w_if_eq (tgt := 122) dX11_name_117 (by decide) (fun c_117 => ?_) (fun c_117 => absurd c_117 (by decide))
        exact nx9 _ _ (by rw [nmIs_a, decide_eq_true c_52, ← c_52, e.resolve_left (by decide)]; rfl)

theorem nm_o : ∀ k, k < 35 → nmO.getD (opN.getD k 0) 0 = k := fun k hk => (nm_b k hk).2.2.1
set_option maxRecDepth 20000 in
set_option maxHeartbeats 4000000 in
/-- name() -/
theorem T_name {X : Nat × (Nat → Int32)} {h : PH} {Q : Option Value → PH → Prop} {T : List Int32} {ψ : Nat → Nat → Int32} {s : Nat} (hB : Byt T) (hs : s ≤ T.length) (t : RTK T s ψ) (q : RU h T ψ) (k0 : ¬ uC T s = 1 → Q (some (.int (-1))) h) (k1 : ∀ j, uC T s = 1 → uO T s = some j → Q (some (.int (nI (nmO.getD j 0)))) h) : WP X mX11_name 4 85 0 (en 6 [.ref 25]) [] h Q := by
  refine w_iconst dX11_name_0 (v := 0) (by decide) ?_
  refine w_istore_n dX11_name_1 rfl (by decide) ?_
  refine w_iconst dX11_name_2 (v := 0) (by decide) ?_
  refine w_istore_n dX11_name_3 rfl (by decide) ?_
  by_cases c : sgI (bT T s) = 0
  · refine w_aload_n dX11_name_4 rfl rfl ?_
    refine u_get (k := 41) (by decide) q dX11_name_5 fX11_214 ?_
    refine w_iconst dX11_name_8 (v := 1) (by decide) ?_
    refine w_icmp_ne (tgt := 134) dX11_name_9 (by decide) (fun c_9 => ?_) (fun c_9 => absurd c_9 (by rw [t.2.1, rk_i]; exact not_not_intro c))
    refine w_iconst dX11_name_134 (v := (-1)) (by decide) ?_
    refine w_iret dX11_name_135 (fun _ e => by cases e; rfl) ?_
    exact k0 (fun e => by have := uC_z c; rw [e] at this; revert this; decide)
  have hl := q.2.1.1
  have hs2 := sg_in c
  have w9 := wd1_p hs
  have sw := sg_w c
  have we := wk_e hB hs2 c
  have e3 : ψ 25 43 = nI (wd1 T s) := by rw [t.2.2.2.1, sw.2]
  refine L_nm3 (s := s) (by omega) w9.1 (by omega) (by rw [t.2.1, rk_i]; exact c) t.2.2.1 e3 q 35 0 _ _ _ (by omega) (fun j e => ?_) (fun e => ?_)
  · rw [← nmF_e] at e
    have eo : uO T s = some (opN.getD j 0) := by rw [uO_e hB hs, e]; rfl
    have := k1 _ (by rw [sw.1, we.1, eo]; rfl) eo
    rw [nm_o j (nmF_p e).1] at this; exact this
  · rw [← nmF_e] at e
    have eo : uO T s = none := by rw [uO_e hB hs, e]; rfl
    exact k0 (fun e9 => by rw [sw.1, we.1, eo] at e9; cases e9)

def UN (ψ φ : Nat → Nat → Int32) : Prop := ∀ c k, ¬ (c = 25 ∧ k = 44) → φ c k = ψ c k
theorem UN.rf {ψ : Nat → Nat → Int32} : UN ψ ψ := fun _ _ _ => rfl
theorem UN.p {ψ : Nat → Nat → Int32} {v : Int32} : UN ψ (uP ψ 25 44 v) := fun _ _ h => uP_o h
theorem UN.ua {ψ φ : Nat → Nat → Int32} (h : UN ψ φ) : UA ψ φ := fun c k _ n2 => h c k (fun e => n2 ⟨e.1, by omega, by omega⟩)
theorem RTK.un {T : List Int32} {s : Nat} {ψ φ : Nat → Nat → Int32} (t : RTK T s ψ) (h : UN ψ φ) : RTK T s φ := ⟨(h 25 40 (by decide)).trans t.1, (h 25 41 (by decide)).trans t.2.1, (h 25 42 (by decide)).trans t.2.2.1, (h 25 43 (by decide)).trans t.2.2.2.1, fun e => ⟨(h 25 46 (by decide)).trans (t.2.2.2.2 e).1, fun i v hv => (h 38 i (fun e => absurd e.1 (by decide))).trans ((t.2.2.2.2 e).2 i v hv)⟩⟩
set_option maxRecDepth 20000 in
set_option maxHeartbeats 4000000 in
theorem L_il {X : Nat × (Nat → Int32)} {h : PH} {Q : Option Value → PH → Prop} {T : List Int32} {ψ : Nat → Nat → Int32} {e : Nat} (he : e ≤ 4000) (e3 : ψ 25 43 = nI e) (q : RU h T ψ) : ∀ (m i : Nat) (b : Bool) , i + m = e → (∀ x, WP X mX11_isLabel 5 110 101 [some (.ref 25), some (.int (if (b && alF (fun i => isLb (bT T i)) m i) = true then 1 else 0)), x] [] h Q) → WP X mX11_isLabel 5 110 45 [some (.ref 25), some (.int (if b = true then 1 else 0)), some (.int (nI i))] [] h Q := by
  intro m
  induction m with
  | zero =>
    intro i b hn k
    rw [alF, Bool.and_true] at k
    refine w_iload_n dX11_isLabel_45 rfl rfl ?_
    refine w_aload_n dX11_isLabel_46 rfl rfl ?_
    refine u_get (k := 43) (by decide) q dX11_isLabel_47 fX11_223 ?_
    refine w_icmp_ge (tgt := 101) dX11_isLabel_50 (by decide) (fun c_50 => ?_) (fun c_50 => absurd c_50 (not_not_intro (by rw [e3]; exact nI_le (by omega) (by omega))))
    exact k _
  | succ m ih =>
    intro i b hn k
    rw [alF] at k
    have k2 := fun b9 (hb9 : (b && isLb (bT T i)) = b9) => ih (i + 1) b9 (by omega) (by rw [← hb9, Bool.and_assoc]; exact k)
    refine w_iload_n dX11_isLabel_45 rfl rfl ?_
    refine w_aload_n dX11_isLabel_46 rfl rfl ?_
    refine u_get (k := 43) (by decide) q dX11_isLabel_47 fX11_223 ?_
    refine w_icmp_ge (tgt := 101) dX11_isLabel_50 (by decide) (fun c_50 => absurd c_50 (by rw [e3]; exact nI_ge (by omega) (by omega))) (fun c_50 => ?_)
    refine w_iload_n dX11_isLabel_53 rfl rfl ?_
    refine w_if_eq (tgt := 93) dX11_isLabel_54 (by decide) (fun c_54 => ?_) (fun c_54 => ?_)
    · refine w_iconst dX11_isLabel_93 (v := 0) (by decide) ?_
      refine w_istore_n dX11_isLabel_94 rfl (by decide) ?_
      refine w_iinc (v := (nI (i + 1))) dX11_isLabel_95 rfl (nI_1 i) (by decide) ?_
      refine w_goto (tgt := 45) dX11_isLabel_98 (by decide) ?_
      have b0 : b = false := bf_0 c_54
      exact k2 false (by rw [b0]; rfl)
    · refine w_aload_n dX11_isLabel_57 rfl rfl ?_
      refine w_iload_n dX11_isLabel_58 rfl rfl ?_
      refine w_v1 (d2 := 0) (L2 := 0) dX11_isLabel_59 vX11_205 rfl (q.1.lt (by decide)) rfl (by decide) (Nat.le_of_ble_eq_true rfl) (by decide) (by decide) ?_
      refine T_sign (by omega) q ?_
      refine k_i rfl ?_
      refine w_s1 (d2 := 1) (L2 := 20) dX11_isLabel_62 vX11_196 rfl (by decide) (Nat.le_of_ble_eq_true rfl) (by decide) (by decide) ?_
      refine T_isLt ?_
      cases gL : isLt (bT T i)
      · refine k_i rfl ?_
        refine w_if_ne (tgt := 89) dX11_isLabel_65 (by decide) (fun c_65 => absurd c_65 (by decide)) (fun c_65 => ?_)
        refine w_aload_n dX11_isLabel_68 rfl rfl ?_
        refine w_iload_n dX11_isLabel_69 rfl rfl ?_
        refine w_v1 (d2 := 0) (L2 := 0) dX11_isLabel_70 vX11_205 rfl (q.1.lt (by decide)) rfl (by decide) (Nat.le_of_ble_eq_true rfl) (by decide) (by decide) ?_
        refine T_sign (by omega) q ?_
        refine k_i rfl ?_
        refine w_s1 (d2 := 0) (L2 := 0) dX11_isLabel_73 vX11_199 rfl (by decide) (Nat.le_of_ble_eq_true rfl) (by decide) (by decide) ?_
        refine T_isDg ?_
        cases gD : isDg (bT T i)
        · refine k_i rfl ?_
          refine w_if_ne (tgt := 89) dX11_isLabel_76 (by decide) (fun c_76 => absurd c_76 (by decide)) (fun c_76 => ?_)
          refine w_aload_n dX11_isLabel_79 rfl rfl ?_
          refine w_iload_n dX11_isLabel_80 rfl rfl ?_
          refine w_v1 (d2 := 0) (L2 := 0) dX11_isLabel_81 vX11_205 rfl (q.1.lt (by decide)) rfl (by decide) (Nat.le_of_ble_eq_true rfl) (by decide) (by decide) ?_
          refine T_sign (by omega) q ?_
          refine k_i rfl ?_
          refine w_bipush dX11_isLabel_84 (v := 95) (by decide) ?_
          refine w_icmp_ne (tgt := 93) dX11_isLabel_86 (by decide) (fun c_86 => ?_) (fun c_86 => ?_)
          · refine w_iconst dX11_isLabel_93 (v := 0) (by decide) ?_
            refine w_istore_n dX11_isLabel_94 rfl (by decide) ?_
            refine w_iinc (v := (nI (i + 1))) dX11_isLabel_95 rfl (nI_1 i) (by decide) ?_
            refine w_goto (tgt := 45) dX11_isLabel_98 (by decide) ?_
            have b1 : b = true := bf_1 c_54
            subst b1
            exact k2 false (by simp [isLb, gL, gD, c_86])
          · refine w_iconst dX11_isLabel_89 (v := 1) (by decide) ?_
            refine w_goto (tgt := 94) dX11_isLabel_90 (by decide) ?_
            refine w_istore_n dX11_isLabel_94 rfl (by decide) ?_
            refine w_iinc (v := (nI (i + 1))) dX11_isLabel_95 rfl (nI_1 i) (by decide) ?_
            refine w_goto (tgt := 45) dX11_isLabel_98 (by decide) ?_
            have b1 : b = true := bf_1 c_54
            subst b1
            exact k2 true (by simp [isLb, gL, gD, c_86])
        · refine k_i rfl ?_
          refine w_if_ne (tgt := 89) dX11_isLabel_76 (by decide) (fun c_76 => ?_) (fun c_76 => absurd c_76 (by decide))
          refine w_iconst dX11_isLabel_89 (v := 1) (by decide) ?_
          refine w_goto (tgt := 94) dX11_isLabel_90 (by decide) ?_
          refine w_istore_n dX11_isLabel_94 rfl (by decide) ?_
          refine w_iinc (v := (nI (i + 1))) dX11_isLabel_95 rfl (nI_1 i) (by decide) ?_
          refine w_goto (tgt := 45) dX11_isLabel_98 (by decide) ?_
          have b1 : b = true := bf_1 c_54
          subst b1
          exact k2 true (by simp [isLb, gL, gD])
      · refine k_i rfl ?_
        refine w_if_ne (tgt := 89) dX11_isLabel_65 (by decide) (fun c_65 => ?_) (fun c_65 => absurd c_65 (by decide))
        refine w_iconst dX11_isLabel_89 (v := 1) (by decide) ?_
        refine w_goto (tgt := 94) dX11_isLabel_90 (by decide) ?_
        refine w_istore_n dX11_isLabel_94 rfl (by decide) ?_
        refine w_iinc (v := (nI (i + 1))) dX11_isLabel_95 rfl (nI_1 i) (by decide) ?_
        refine w_goto (tgt := 45) dX11_isLabel_98 (by decide) ?_
        have b1 : b = true := bf_1 c_54
        subst b1
        exact k2 true (by simp [isLb, gL])

theorem nmO_lt : ∀ j, nmO.getD j 0 < 35 := by
  intro j
  rcases Nat.lt_or_ge j 37 with h | h
  · exact (nm_c j h).1
  · rw [List.getD_eq_getElem?_getD, List.getElem?_eq_none (by exact h)]; decide
theorem nm_ne (j : Nat) : ¬ nI (nmO.getD j 0) = -1 := (fun e => absurd (congrArg Int32.toInt e) (by rw [nI_toInt (by have := nmO_lt j; omega)]; show ¬ ((nmO.getD j 0 : Nat) : Int) = -1; omega))
set_option maxRecDepth 20000 in
set_option maxHeartbeats 4000000 in
/-- isLabel() -/
theorem T_isLab {X : Nat × (Nat → Int32)} {h0 h : PH} {Q : Option Value → PH → Prop} {T : List Int32} {ψ : Nat → Nat → Int32} {s : Nat} (hB : Byt T) (hs : s ≤ T.length) (t : RTK T s ψ) (f : Fu h0 h) (q : RU h T ψ) (k0 : ¬ uC T s = 4 → ∀ h' φ, Fu h0 h' → RU h' T φ → UN ψ φ → Q (some (.int 0)) h') (k1 : uC T s = 4 → Q (some (.int 1)) h) : WP X mX11_isLabel 5 110 0 (en 3 [.ref 25]) [] h Q := by
  refine w_aload_n dX11_isLabel_0 rfl rfl ?_
  refine u_get (k := 41) (by decide) q dX11_isLabel_1 fX11_214 ?_
  refine w_iconst dX11_isLabel_4 (v := 1) (by decide) ?_
  refine w_icmp_ne (tgt := 36) dX11_isLabel_5 (by decide) (fun c_5 => ?_) (fun c_5 => ?_)
  · rw [t.2.1, rk_i] at c_5
    refine w_iconst dX11_isLabel_36 (v := 0) (by decide) ?_
    refine w_iret dX11_isLabel_37 (fun _ e => by cases e; decide) ?_
    exact k0 (fun e => by have := uC_z (Decidable.not_not.mp c_5); rw [e] at this; revert this; decide) _ _ f q UN.rf
  · rw [t.2.1, rk_i] at c_5
    have hl := q.2.1.1
    have hs2 := sg_in c_5
    have hw := wd1_lt hs2 c_5
    have w9 := wd1_p hs
    have sw := sg_w c_5
    have we := wk_e hB hs2 c_5
    have e3 : ψ 25 43 = nI (wd1 T s) := by rw [t.2.2.2.1, sw.2]
    have eL := uL_e hB hs2 c_5
    have kn : lbS T s (wd1 T s - s) = false → Q (some (.int 0)) h := fun e => k0 (fun e9 => by rw [sw.1, we.2.2.2, eL, e] at e9; cases e9.1) _ _ f q UN.rf
    have e2 := t.2.2.1
    refine w_aload_n dX11_isLabel_8 rfl rfl ?_
    refine w_aload_n dX11_isLabel_9 rfl rfl ?_
    refine u_get (k := 42) (by decide) q dX11_isLabel_10 fX11_211 ?_
    refine w_v1 (d2 := 0) (L2 := 0) dX11_isLabel_13 vX11_205 rfl (q.1.lt (by decide)) rfl (by decide) (Nat.le_of_ble_eq_true rfl) (by decide) (by decide) ?_
    rw [t.2.2.1]
    refine T_sign (by omega) q ?_
    refine k_i rfl ?_
    refine w_s1 (d2 := 1) (L2 := 20) dX11_isLabel_16 vX11_196 rfl (by decide) (Nat.le_of_ble_eq_true rfl) (by decide) (by decide) ?_
    refine T_isLt ?_
    cases gL : isLt (bT T s)
    · refine k_i rfl ?_
      refine w_if_eq (tgt := 36) dX11_isLabel_19 (by decide) (fun c_19 => ?_) (fun c_19 => absurd c_19 (by decide))
      refine w_iconst dX11_isLabel_36 (v := 0) (by decide) ?_
      refine w_iret dX11_isLabel_37 (fun _ e => by cases e; decide) ?_
      exact kn (by unfold lbS; rw [gL]; rfl)
    · refine k_i rfl ?_
      refine w_if_eq (tgt := 36) dX11_isLabel_19 (by decide) (fun c_19 => absurd c_19 (by decide)) (fun c_19 => ?_)
      refine w_aload_n dX11_isLabel_22 rfl rfl ?_
      refine u_get (k := 43) (by decide) q dX11_isLabel_23 fX11_223 ?_
      refine w_aload_n dX11_isLabel_26 rfl rfl ?_
      refine u_get (k := 42) (by decide) q dX11_isLabel_27 fX11_211 ?_
      refine w_isub dX11_isLabel_30 ?_
      refine w_bipush dX11_isLabel_31 (v := 20) (by decide) ?_
      refine w_icmp_le (tgt := 38) dX11_isLabel_33 (by decide) (fun c_33 => ?_) (fun c_33 => ?_)
      · rw [e3, t.2.2.1, nI_sub w9.1, show (20 : Int32) = nI 20 from rfl, nI_leI (by omega) (by decide)] at c_33
        refine w_iconst dX11_isLabel_38 (v := 1) (by decide) ?_
        refine w_istore_n dX11_isLabel_39 rfl (by decide) ?_
        refine w_aload_n dX11_isLabel_40 rfl rfl ?_
        refine u_get (k := 42) (by decide) q dX11_isLabel_41 fX11_211 ?_
        refine w_istore_n dX11_isLabel_44 rfl (by decide) ?_
        rw [e2]
        refine L_il (e := wd1 T s) (by omega) e3 q (wd1 T s - s) s true (by omega) (fun x => ?_)
        rw [Bool.true_and]
        have ea : lbS T s (wd1 T s - s) = alF (fun i => isLb (bT T i)) (wd1 T s - s) s := by unfold lbS; rw [gL, decide_eq_true c_33, alF_e]; rfl
        cases eA : alF (fun i => isLb (bT T i)) (wd1 T s - s) s
        · refine w_iload_n dX11_isLabel_101 rfl rfl ?_
          refine w_if_eq (tgt := 131) dX11_isLabel_102 (by decide) (fun c_102 => ?_) (fun c_102 => absurd c_102 (by decide))
          refine w_iconst dX11_isLabel_131 (v := 0) (by decide) ?_
          refine w_iret dX11_isLabel_132 (fun _ e => by cases e; decide) ?_
          exact kn (by rw [ea, eA])
        · refine w_iload_n dX11_isLabel_101 rfl rfl ?_
          refine w_if_eq (tgt := 131) dX11_isLabel_102 (by decide) (fun c_102 => absurd c_102 (by decide)) (fun c_102 => ?_)
          refine w_aload_n dX11_isLabel_105 rfl rfl ?_
          refine w_v0 (d2 := 2) (L2 := 41) dX11_isLabel_106 vX11_246 rfl (q.1.lt (by decide)) (by decide) (Nat.le_of_ble_eq_true rfl) (by decide) (by decide) ?_
          refine T_isNum hB hs t f q (fun d2 => ?_) (fun d2 h9 f9 q9 => ?_)
          · refine k_i rfl ?_
            refine w_if_ne (tgt := 131) dX11_isLabel_109 (by decide) (fun c_109 => absurd c_109 (by decide)) (fun c_109 => ?_)
            refine w_aload_n dX11_isLabel_112 rfl rfl ?_
            refine w_v0 (d2 := 1) (L2 := 21) dX11_isLabel_113 vX11_249 rfl (q.1.lt (by decide)) (by decide) (Nat.le_of_ble_eq_true rfl) (by decide) (by decide) ?_
            refine T_isReg hB hs t q (fun d3 => ?_) (fun d3 _ => ?_)
            · refine k_i rfl ?_
              refine w_if_ne (tgt := 131) dX11_isLabel_116 (by decide) (fun c_116 => absurd c_116 (by decide)) (fun c_116 => ?_)
              refine w_aload_n dX11_isLabel_119 rfl rfl ?_
              refine w_v0 (d2 := 4) (L2 := 85) dX11_isLabel_120 vX11_252 rfl (q.1.lt (by decide)) (by decide) (Nat.le_of_ble_eq_true rfl) (by decide) (by decide) ?_
              refine T_name hB hs t q (fun d1 => ?_) (fun j d1 eo => ?_)
              · refine k_i rfl ?_
                refine w_iconst dX11_isLabel_123 (v := (-1)) (by decide) ?_
                refine w_icmp_ne (tgt := 131) dX11_isLabel_124 (by decide) (fun c_124 => absurd c_124 (not_not_intro rfl)) (fun c_124 => ?_)
                refine w_iconst dX11_isLabel_127 (v := 1) (by decide) ?_
                refine w_goto (tgt := 132) dX11_isLabel_128 (by decide) ?_
                refine w_iret dX11_isLabel_132 (fun _ e => by cases e; decide) ?_
                exact k1 (by rw [sw.1] at *; exact we.2.2.2.mpr ⟨by rw [eL, ea, eA], fun x => d2 (we.2.1.mpr x), fun x => d3 (we.2.2.1.mpr x), fun x => d1 (we.1.mpr x)⟩)
              · refine k_i rfl ?_
                refine w_iconst dX11_isLabel_123 (v := (-1)) (by decide) ?_
                refine w_icmp_ne (tgt := 131) dX11_isLabel_124 (by decide) (fun c_124 => ?_) (fun c_124 => absurd c_124 (nm_ne j))
                refine w_iconst dX11_isLabel_131 (v := 0) (by decide) ?_
                refine w_iret dX11_isLabel_132 (fun _ e => by cases e; decide) ?_
                exact k0 (by rw [d1]; decide) _ _ f q UN.rf
            · refine k_i rfl ?_
              refine w_if_ne (tgt := 131) dX11_isLabel_116 (by decide) (fun c_116 => ?_) (fun c_116 => absurd c_116 (by decide))
              refine w_iconst dX11_isLabel_131 (v := 0) (by decide) ?_
              refine w_iret dX11_isLabel_132 (fun _ e => by cases e; decide) ?_
              exact k0 (by rw [d3]; decide) _ _ f q UN.rf
          · refine k_i rfl ?_
            refine w_if_ne (tgt := 131) dX11_isLabel_109 (by decide) (fun c_109 => ?_) (fun c_109 => absurd c_109 (by decide))
            refine w_iconst dX11_isLabel_131 (v := 0) (by decide) ?_
            refine w_iret dX11_isLabel_132 (fun _ e => by cases e; decide) ?_
            exact k0 (by rw [d2]; decide) _ _ f9 q9 UN.p
      · rw [e3, t.2.2.1, nI_sub w9.1, show (20 : Int32) = nI 20 from rfl, nI_leI (by omega) (by decide)] at c_33
        refine w_iconst dX11_isLabel_36 (v := 0) (by decide) ?_
        refine w_iret dX11_isLabel_37 (fun _ e => by cases e; decide) ?_
        exact kn (by unfold lbS; rw [gL, decide_eq_false c_33]; rfl)

