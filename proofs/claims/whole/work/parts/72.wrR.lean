/-! THE REFERENCE's WRITER: names -/
def nB (k : Nat) : List Int32 := nmB.getD k []
theorem nB_l (k : Nat) : (nB k).length = nmN k := rfl
set_option maxRecDepth 20000 in
set_option maxHeartbeats 4000000 in
theorem L_sn2 {X : Nat × (Nat → Int32)} {h : PH} {Q : Option Value → PH → Prop} {k9 i : Nat} (hi : i < 35) (kk : WP X mX11_sayName 4 85 26 [some (.ref 25), some (.int (nI k9)), some (.int (nI (nmQk i + nmN i))), some (.int (nI i))] [] h Q) : ∀ (m n : Nat), n + m = nmN i → WP X mX11_sayName 4 85 9 [some (.ref 25), some (.int (nI k9)), some (.int (nI (nmQk i + n))), some (.int (nI i))] [] h Q := by
  have ga := nm_a i hi
  have gg := nm_g.2 i hi
  intro m
  induction m with
  | zero =>
    intro n hn
    have hn2 : n = nmN i := by omega
    subst hn2
    refine w_ldcS dX11_sayName_9 kR_n ?_
    refine w_iload_n dX11_sayName_11 rfl rfl ?_
    refine w_callC (d2 := 3) (L2 := 64) (M2 := mJ0_charAt_5068e) (As := [.int (nI (nmQk i + nmN i))]) dX11_sayName_12 oJ0_charAt_5068e lX11_242 iJ0_charAt_5068e sJ0_charAt_5068e (kO_s9 (i := 11) (by decide)) rfl rfl (fun v hv => by simp only [List.mem_cons, List.not_mem_nil, or_false] at hv; rw [hv]; rfl) (Nat.le_of_ble_eq_true rfl) (Nat.le_of_ble_eq_true rfl) (by decide) (by decide) ?_
    refine T_char (j := 11) (i := nmQk i + nmN i) (by decide) (gg) ?_
    refine k_i rfl ?_
    refine w_bipush dX11_sayName_15 (v := 32) (by decide) ?_
    refine w_icmp_eq (tgt := 26) dX11_sayName_17 (by decide) (fun c_17 => ?_) (fun c_17 => absurd c_17 (not_not_intro (by rw [← nmC_s]; exact ga.2.1)))
    exact kk
  | succ m ih =>
    intro n hn
    refine w_ldcS dX11_sayName_9 kR_n ?_
    refine w_iload_n dX11_sayName_11 rfl rfl ?_
    refine w_callC (d2 := 3) (L2 := 64) (M2 := mJ0_charAt_5068e) (As := [.int (nI (nmQk i + n))]) dX11_sayName_12 oJ0_charAt_5068e lX11_242 iJ0_charAt_5068e sJ0_charAt_5068e (kO_s9 (i := 11) (by decide)) rfl rfl (fun v hv => by simp only [List.mem_cons, List.not_mem_nil, or_false] at hv; rw [hv]; rfl) (Nat.le_of_ble_eq_true rfl) (Nat.le_of_ble_eq_true rfl) (by decide) (by decide) ?_
    refine T_char (j := 11) (i := nmQk i + n) (by decide) (by omega) ?_
    refine k_i rfl ?_
    refine w_bipush dX11_sayName_15 (v := 32) (by decide) ?_
    refine w_icmp_eq (tgt := 26) dX11_sayName_17 (by decide) (fun c_17 => absurd c_17 (by rw [← nmC_s]; exact (ga.1 n (by omega)).2)) (fun c_17 => ?_)
    refine w_iinc (v := (nI (nmQk i + (n + 1)))) dX11_sayName_20 rfl (nI_1 _) (by decide) ?_
    refine w_goto (tgt := 9) dX11_sayName_23 (by decide) ?_
    exact ih (n + 1) (by omega)

set_option maxRecDepth 20000 in
set_option maxHeartbeats 4000000 in
theorem L_sn1 {X : Nat × (Nat → Int32)} {h : PH} {Q : Option Value → PH → Prop} {k9 : Nat} (hk : k9 < 35) (kk : ∀ x, WP X mX11_sayName 4 85 35 [some (.ref 25), some (.int (nI k9)), some (.int (nI (nmQk k9))), x] [] h Q) : ∀ (m i : Nat), i + m = k9 → WP X mX11_sayName 4 85 4 [some (.ref 25), some (.int (nI k9)), some (.int (nI (nmQk i))), some (.int (nI i))] [] h Q := by
  intro m
  induction m with
  | zero =>
    intro i hi
    have hi2 : i = k9 := by omega
    subst hi2
    refine w_iload_n dX11_sayName_4 rfl rfl ?_
    refine w_iload_n dX11_sayName_5 rfl rfl ?_
    refine w_icmp_ge (tgt := 35) dX11_sayName_6 (by decide) (fun c_6 => ?_) (fun c_6 => absurd c_6 (not_not_intro (Int32.le_refl _)))
    exact kk _
  | succ m ih =>
    intro i hi
    have ga := nm_a i (by omega)
    refine w_iload_n dX11_sayName_4 rfl rfl ?_
    refine w_iload_n dX11_sayName_5 rfl rfl ?_
    refine w_icmp_ge (tgt := 35) dX11_sayName_6 (by decide) (fun c_6 => absurd c_6 (nI_ge (by omega) (by omega))) (fun c_6 => ?_)
    refine L_sn2 (by omega) ?_ (nmN i) 0 (by omega)
    refine w_iinc (v := (nI (nmQk i + nmN i + 1))) dX11_sayName_26 rfl (nI_1 _) (by decide) ?_
    refine w_iinc (v := (nI (i + 1))) dX11_sayName_29 rfl (nI_1 i) (by decide) ?_
    refine w_goto (tgt := 4) dX11_sayName_32 (by decide) ?_
    rw [← ga.2.2.1]
    exact ih (i + 1) (by omega)

set_option maxRecDepth 20000 in
set_option maxHeartbeats 4000000 in
theorem L_sn3 {X : Nat × (Nat → Int32)} {h0 : PH} {Q : Option Value → PH → Prop} {k9 : Nat} {x1 x2 : Int32} (hk : k9 < 35) : ∀ (m n : Nat) (h : PH) (L : List Int32), n + m = nmN k9 → L.length + m ≤ 40 → FW h0 h → LW h L → (∀ h', FW h0 h' → LW h' (L ++ (nB k9).drop n) → Q none h') → WP X mX11_sayName 4 85 37 [some (.ref 25), some (.int x1), some (.int x2), some (.int (nI (nmQk k9 + n)))] [] h Q := by
  have ga := nm_a k9 hk
  have gg := nm_g.2 k9 hk
  intro m
  induction m with
  | zero =>
    intro n h L hn hl f q k
    have hn2 : n = nmN k9 := by omega
    subst hn2
    rw [List.drop_eq_nil_of_le (by rw [nB_l]; exact Nat.le_refl _), List.append_nil] at k
    refine w_ldcS dX11_sayName_37 kR_n ?_
    refine w_iload_n dX11_sayName_39 rfl rfl ?_
    refine w_callC (d2 := 3) (L2 := 64) (M2 := mJ0_charAt_5068e) (As := [.int (nI (nmQk k9 + nmN k9))]) dX11_sayName_40 oJ0_charAt_5068e lX11_242 iJ0_charAt_5068e sJ0_charAt_5068e (kO_s9 (i := 11) (by decide)) rfl rfl (fun v hv => by simp only [List.mem_cons, List.not_mem_nil, or_false] at hv; rw [hv]; rfl) (Nat.le_of_ble_eq_true rfl) (Nat.le_of_ble_eq_true rfl) (by decide) (by decide) ?_
    refine T_char (j := 11) (i := nmQk k9 + nmN k9) (by decide) (gg) ?_
    refine k_i rfl ?_
    refine w_bipush dX11_sayName_43 (v := 32) (by decide) ?_
    refine w_icmp_eq (tgt := 64) dX11_sayName_45 (by decide) (fun c_45 => ?_) (fun c_45 => absurd c_45 (not_not_intro (by rw [← nmC_s]; exact ga.2.1)))
    refine w_vret dX11_sayName_64 ?_
    exact k _ f q
  | succ m ih =>
    intro n h L hn hl f q k
    have hv : (nB k9)[n]? = some ((nB k9).getD n 0) := by rw [List.getD_eq_getElem?_getD, List.getElem?_eq_getElem (by rw [nB_l]; omega)]; rfl
    have hc : (sB 11).getD (nmQk k9 + n) 0 = (nB k9).getD n 0 := (ga.1 n (by omega)).1
    refine w_ldcS dX11_sayName_37 kR_n ?_
    refine w_iload_n dX11_sayName_39 rfl rfl ?_
    refine w_callC (d2 := 3) (L2 := 64) (M2 := mJ0_charAt_5068e) (As := [.int (nI (nmQk k9 + n))]) dX11_sayName_40 oJ0_charAt_5068e lX11_242 iJ0_charAt_5068e sJ0_charAt_5068e (kO_s9 (i := 11) (by decide)) rfl rfl (fun v hv => by simp only [List.mem_cons, List.not_mem_nil, or_false] at hv; rw [hv]; rfl) (Nat.le_of_ble_eq_true rfl) (Nat.le_of_ble_eq_true rfl) (by decide) (by decide) ?_
    refine T_char (j := 11) (i := nmQk k9 + n) (by decide) (by omega) ?_
    refine k_i rfl ?_
    refine w_bipush dX11_sayName_43 (v := 32) (by decide) ?_
    refine w_icmp_eq (tgt := 64) dX11_sayName_45 (by decide) (fun c_45 => absurd c_45 (by rw [← nmC_s]; exact (ga.1 n (by omega)).2)) (fun c_45 => ?_)
    refine w_aload_n dX11_sayName_48 rfl rfl ?_
    refine w_ldcS dX11_sayName_49 kR_n ?_
    refine w_iload_n dX11_sayName_51 rfl rfl ?_
    refine w_callC (d2 := 3) (L2 := 64) (M2 := mJ0_charAt_5068e) (As := [.int (nI (nmQk k9 + n))]) dX11_sayName_52 oJ0_charAt_5068e lX11_242 iJ0_charAt_5068e sJ0_charAt_5068e (kO_s9 (i := 11) (by decide)) rfl rfl (fun v hv => by simp only [List.mem_cons, List.not_mem_nil, or_false] at hv; rw [hv]; rfl) (Nat.le_of_ble_eq_true rfl) (Nat.le_of_ble_eq_true rfl) (by decide) (by decide) ?_
    refine T_char (j := 11) (i := nmQk k9 + n) (by decide) (by omega) ?_
    refine k_i rfl ?_
    refine w_v1 (d2 := 0) (L2 := 0) dX11_sayName_55 vX11_366 rfl (q.1.lt (by decide)) rfl (by decide) (Nat.le_of_ble_eq_true rfl) (by decide) (by decide) ?_
    refine T_say (by omega) f q (fun h1 f1 q1 => ?_)
    refine k_v rfl ?_
    refine w_iinc (v := (nI (nmQk k9 + (n + 1)))) dX11_sayName_58 rfl (nI_1 _) (by decide) ?_
    refine w_goto (tgt := 37) dX11_sayName_61 (by decide) ?_
    rw [hc] at q1
    exact ih (n + 1) _ _ (by omega) (by rw [List.length_append]; simp only [List.length_cons, List.length_nil]; omega) f1 q1 (fun h9 f9 q9 => k h9 f9 (by rw [dr_s hv]; rw [List.append_assoc] at q9; exact q9))

set_option maxRecDepth 20000 in
set_option maxHeartbeats 4000000 in
theorem T_sayN {X : Nat × (Nat → Int32)} {h0 h : PH} {Q : Option Value → PH → Prop} {L : List Int32} {k9 : Nat} (hk : k9 < 35) (hl : L.length + 8 ≤ 40) (f : FW h0 h) (q : LW h L) (k : ∀ h', FW h0 h' → LW h' (L ++ nB k9) → Q none h') : WP X mX11_sayName 4 85 0 (en 4 [.ref 25, .int (nI k9)]) [] h Q := by
  refine w_iconst dX11_sayName_0 (v := 0) (by decide) ?_
  refine w_istore_n dX11_sayName_1 rfl (by decide) ?_
  refine w_iconst dX11_sayName_2 (v := 0) (by decide) ?_
  refine w_istore_n dX11_sayName_3 rfl (by decide) ?_
  have ga := nm_a k9 hk
  refine L_sn1 hk (fun x => ?_) k9 0 (by omega)
  refine w_iload_n dX11_sayName_35 rfl rfl ?_
  refine w_istore_n dX11_sayName_36 rfl (by decide) ?_
  exact L_sn3 hk (nmN k9) 0 _ _ (by omega) (by omega) f q k

set_option maxRecDepth 20000 in
set_option maxHeartbeats 4000000 in
theorem T_sWh {X : Nat × (Nat → Int32)} {h0 h : PH} {Q : Option Value → PH → Prop} {L : List Int32} {k9 : Nat} {w : Int32} (hk : k9 < 35) (hl : L = []) (f : FW h0 h) (q : LW h L) (k : ∀ h', FW h0 h' → LW h' (nB k9 ++ ([32] ++ (rgT (w >>> ((9 : Int32) &&& 31) &&& 7) ++ ([44, 32] ++ nvC (sgS w 9))))) → Q none h') : WP X mX11_sayWhere 5 108 0 (en 3 [.ref 25, .int (nI k9), .int w]) [] h Q := by
  subst hl
  have nl9 : nmN k9 ≤ 8 := (nm_a k9 hk).2.2.2.2
  have nbl : (nB k9).length ≤ 8 := nl9
  refine w_aload_n dX11_sayWhere_0 rfl rfl ?_
  refine w_iload_n dX11_sayWhere_1 rfl rfl ?_
  refine w_v1 (d2 := 4) (L2 := 85) dX11_sayWhere_2 vX11_372 rfl (q.1.lt (by decide)) rfl (by decide) (Nat.le_of_ble_eq_true rfl) (by decide) (by decide) ?_
  refine T_sayN (k9 := k9) hk (by first | omega | (simp only [List.length_append, List.length_cons, List.length_nil, nB_l, rgT] at *; omega)) f q (fun h1 f1 q1 => ?_)
  refine k_v rfl ?_
  refine w_aload_n dX11_sayWhere_5 rfl rfl ?_
  refine w_bipush dX11_sayWhere_6 (v := 32) (by decide) ?_
  refine w_v1 (d2 := 0) (L2 := 0) dX11_sayWhere_8 vX11_366 rfl (q1.1.lt (by decide)) rfl (by decide) (Nat.le_of_ble_eq_true rfl) (by decide) (by decide) ?_
  refine T_say (by first | omega | (simp only [List.length_append, List.length_cons, List.length_nil, nB_l, rgT] at *; omega)) f1 q1 (fun h2 f2 q2 => ?_)
  refine k_v rfl ?_
  refine w_aload_n dX11_sayWhere_11 rfl rfl ?_
  refine w_iload_n dX11_sayWhere_12 rfl rfl ?_
  refine w_bipush dX11_sayWhere_13 (v := 9) (by decide) ?_
  refine w_ishr dX11_sayWhere_15 ?_
  refine w_bipush dX11_sayWhere_16 (v := 7) (by decide) ?_
  refine w_iand dX11_sayWhere_18 ?_
  refine w_v1 (d2 := 1) (L2 := 21) dX11_sayWhere_19 vX11_378 rfl (q2.1.lt (by decide)) rfl (by decide) (Nat.le_of_ble_eq_true rfl) (by decide) (by decide) ?_
  refine T_srg (by first | omega | (simp only [List.length_append, List.length_cons, List.length_nil, nB_l, rgT] at *; omega)) f2 q2 (fun h3 f3 q3 => ?_)
  refine k_v rfl ?_
  refine w_aload_n dX11_sayWhere_22 rfl rfl ?_
  refine w_v0 (d2 := 1) (L2 := 21) dX11_sayWhere_23 vX11_381 rfl (q3.1.lt (by decide)) (by decide) (Nat.le_of_ble_eq_true rfl) (by decide) (by decide) ?_
  refine T_sbt (by first | omega | (simp only [List.length_append, List.length_cons, List.length_nil, nB_l, rgT] at *; omega)) f3 q3 (fun h4 f4 q4 => ?_)
  refine k_v rfl ?_
  refine w_aload_n dX11_sayWhere_26 rfl rfl ?_
  refine w_iload_n dX11_sayWhere_27 rfl rfl ?_
  refine w_bipush dX11_sayWhere_28 (v := 9) (by decide) ?_
  refine w_s2 (d2 := 0) (L2 := 0) dX11_sayWhere_30 vX11_154 rfl rfl (by decide) (Nat.le_of_ble_eq_true rfl) (by decide) (by decide) ?_
  refine T_sgM ?_
  refine k_i rfl ?_
  refine w_v1 (d2 := 1) (L2 := 21) dX11_sayWhere_33 vX11_384 rfl (q4.1.lt (by decide)) rfl (by decide) (Nat.le_of_ble_eq_true rfl) (by decide) (by decide) ?_
  refine T_snm (by first | omega | (simp only [List.length_append, List.length_cons, List.length_nil, nB_l, rgT] at *; omega)) f4 q4 (fun h5 f5 q5 => ?_)
  refine k_v rfl ?_
  refine w_vret dX11_sayWhere_36 ?_
  rw [sg9, (nv_9 w).1] at q5
  simp only [List.append_assoc, List.nil_append] at q5
  exact k _ f5 q5

set_option maxRecDepth 20000 in
set_option maxHeartbeats 4000000 in
theorem T_sTw {X : Nat × (Nat → Int32)} {h0 h : PH} {Q : Option Value → PH → Prop} {L : List Int32} {k9 : Nat} {w : Int32} (hk : k9 < 35) (hl : L = []) (f : FW h0 h) (q : LW h L) (k : ∀ h', FW h0 h' → LW h' (nB k9 ++ ([32] ++ (rgT (w >>> ((9 : Int32) &&& 31) &&& 7) ++ ([44, 32] ++ rgT (w >>> ((6 : Int32) &&& 31) &&& 7))))) → Q none h') : WP X mX11_sayTwo 5 108 0 (en 3 [.ref 25, .int (nI k9), .int w]) [] h Q := by
  subst hl
  have nl9 : nmN k9 ≤ 8 := (nm_a k9 hk).2.2.2.2
  have nbl : (nB k9).length ≤ 8 := nl9
  refine w_aload_n dX11_sayTwo_0 rfl rfl ?_
  refine w_iload_n dX11_sayTwo_1 rfl rfl ?_
  refine w_v1 (d2 := 4) (L2 := 85) dX11_sayTwo_2 vX11_372 rfl (q.1.lt (by decide)) rfl (by decide) (Nat.le_of_ble_eq_true rfl) (by decide) (by decide) ?_
  refine T_sayN (k9 := k9) hk (by first | omega | (simp only [List.length_append, List.length_cons, List.length_nil, nB_l, rgT] at *; omega)) f q (fun h1 f1 q1 => ?_)
  refine k_v rfl ?_
  refine w_aload_n dX11_sayTwo_5 rfl rfl ?_
  refine w_bipush dX11_sayTwo_6 (v := 32) (by decide) ?_
  refine w_v1 (d2 := 0) (L2 := 0) dX11_sayTwo_8 vX11_366 rfl (q1.1.lt (by decide)) rfl (by decide) (Nat.le_of_ble_eq_true rfl) (by decide) (by decide) ?_
  refine T_say (by first | omega | (simp only [List.length_append, List.length_cons, List.length_nil, nB_l, rgT] at *; omega)) f1 q1 (fun h2 f2 q2 => ?_)
  refine k_v rfl ?_
  refine w_aload_n dX11_sayTwo_11 rfl rfl ?_
  refine w_iload_n dX11_sayTwo_12 rfl rfl ?_
  refine w_bipush dX11_sayTwo_13 (v := 9) (by decide) ?_
  refine w_ishr dX11_sayTwo_15 ?_
  refine w_bipush dX11_sayTwo_16 (v := 7) (by decide) ?_
  refine w_iand dX11_sayTwo_18 ?_
  refine w_v1 (d2 := 1) (L2 := 21) dX11_sayTwo_19 vX11_378 rfl (q2.1.lt (by decide)) rfl (by decide) (Nat.le_of_ble_eq_true rfl) (by decide) (by decide) ?_
  refine T_srg (by first | omega | (simp only [List.length_append, List.length_cons, List.length_nil, nB_l, rgT] at *; omega)) f2 q2 (fun h3 f3 q3 => ?_)
  refine k_v rfl ?_
  refine w_aload_n dX11_sayTwo_22 rfl rfl ?_
  refine w_v0 (d2 := 1) (L2 := 21) dX11_sayTwo_23 vX11_381 rfl (q3.1.lt (by decide)) (by decide) (Nat.le_of_ble_eq_true rfl) (by decide) (by decide) ?_
  refine T_sbt (by first | omega | (simp only [List.length_append, List.length_cons, List.length_nil, nB_l, rgT] at *; omega)) f3 q3 (fun h4 f4 q4 => ?_)
  refine k_v rfl ?_
  refine w_aload_n dX11_sayTwo_26 rfl rfl ?_
  refine w_iload_n dX11_sayTwo_27 rfl rfl ?_
  refine w_bipush dX11_sayTwo_28 (v := 6) (by decide) ?_
  refine w_ishr dX11_sayTwo_30 ?_
  refine w_bipush dX11_sayTwo_31 (v := 7) (by decide) ?_
  refine w_iand dX11_sayTwo_33 ?_
  refine w_v1 (d2 := 1) (L2 := 21) dX11_sayTwo_34 vX11_378 rfl (q4.1.lt (by decide)) rfl (by decide) (Nat.le_of_ble_eq_true rfl) (by decide) (by decide) ?_
  refine T_srg (by first | omega | (simp only [List.length_append, List.length_cons, List.length_nil, nB_l, rgT] at *; omega)) f4 q4 (fun h5 f5 q5 => ?_)
  refine k_v rfl ?_
  refine w_vret dX11_sayTwo_37 ?_
  simp only [List.append_assoc, List.nil_append] at q5
  exact k _ f5 q5

