/-! THE REFERENCE's write() -/
theorem and_shl (n m k : Nat) : n &&& (m <<< k) = ((n >>> k) &&& m) <<< k := by
  apply Nat.eq_of_testBit_eq
  intro i
  simp only [Nat.testBit_and, Nat.testBit_shiftLeft, Nat.testBit_shiftRight]
  by_cases h : k ≤ i
  · simp [h, Nat.add_sub_cancel' h]
  · simp [h]
theorem ld_24 (n : Nat) : Nat.land n 24 = n / 8 % 4 * 8 := by
  show n &&& 24 = _
  rw [show (24 : Nat) = 3 <<< 3 from rfl, and_shl n 3 3, show (3 : Nat) = 2 ^ 2 - 1 from rfl, Nat.and_two_pow_sub_one_eq_mod, Nat.shiftRight_eq_div_pow, Nat.shiftLeft_eq]
theorem ld_7 (n : Nat) : Nat.land (Nat.shiftRight n 9) 7 = n / 512 % 8 := by
  show (n >>> 9) &&& 7 = _
  rw [show (7 : Nat) = 2 ^ 3 - 1 from rfl, Nat.and_two_pow_sub_one_eq_mod, Nat.shiftRight_eq_div_pow]
theorem sr_12 (n : Nat) : Nat.shiftRight n 12 = n / 4096 := Nat.shiftRight_eq_div_pow n 12
theorem la_n {n m : Nat} (hn : n < 65536) (hm : m < 65536) {c : Nat} (hc : c < 65536) : (nI n &&& nI m = nI c) ↔ Nat.land n m = c := by
  rw [nI_land, nI_eq (Nat.lt_of_le_of_lt Nat.and_le_left (by omega)) (by omega)]; exact Iff.rfl
theorem bt_32 {n : Nat} (hn : n < 65536) : (nI n >>> ((5 : Int32) &&& 31) &&& 1 = 1 → Nat.land n 32 = 32 ∧ ¬ nI n &&& 32 = 0) ∧ (¬ nI n >>> ((5 : Int32) &&& 31) &&& 1 = 1 → Nat.land n 32 = 0 ∧ nI n &&& 32 = 0) := by
  have h := (W16.n hn).b5
  have z := la_n (m := 32) (c := 0) hn (by decide) (by decide)
  have p : Nat.land n 32 = n / 32 % 2 * 32 := and_p2 n 5
  refine ⟨fun e => ?_, fun e => ?_⟩
  · have g := h.mp e
    refine ⟨?_, g⟩
    have : ¬ Nat.land n 32 = 0 := fun e9 => g (z.mpr e9)
    omega
  · have g : nI n &&& 32 = 0 := Decidable.not_not.mp (fun e9 => e (h.mpr e9))
    exact ⟨z.mp g, g⟩
theorem bt_2048 {n : Nat} (hn : n < 65536) : (nI n >>> ((11 : Int32) &&& 31) &&& 1 = 1 → Nat.land n 2048 = 2048) ∧ (¬ nI n >>> ((11 : Int32) &&& 31) &&& 1 = 1 → Nat.land n 2048 = 0) := by
  have h := (W16.n hn).b11
  have z := la_n (m := 2048) (c := 0) hn (by decide) (by decide)
  have p : Nat.land n 2048 = n / 2048 % 2 * 2048 := and_p2 n 11
  refine ⟨fun e => ?_, fun e => ?_⟩
  · have g := h.mp e
    have : ¬ Nat.land n 2048 = 0 := fun e9 => g (z.mpr e9)
    omega
  · exact z.mp (Decidable.not_not.mp (fun e9 => e (h.mpr e9)))
theorem sh_12 {n : Nat} (hn : n < 65536) : nI n >>> ((12 : Int32) &&& 31) = nI (n / 4096) := pk_shrN (by omega) _ 12 (by decide)
theorem br_e : ∀ c, c < 8 → c = 0 ∨ (sB (opTx.getD (br8.getD c 0) 0) = nB (22 + c) ∧ sB (opSh.getD (br8.getD c 0) 0) = [87] ∧ ¬ br8.getD c 0 = 36) := by decide +kernel
theorem ow_n : ∀ v, v < 38 → v < 32 ∨ (sB (opTx.getD (Nat.sub v 3) 0) = nB (16 + v - 32) ∧ sB (opSh.getD (Nat.sub v 3) 0) = [] ∧ ¬ Nat.sub v 3 = 36) := by decide +kernel
theorem lw_12 (w : Int32) : lwT 12 w = nB 0 ++ ([32] ++ (rgT (w >>> ((9 : Int32) &&& 31) &&& 7) ++ ([44, 32] ++ (rgT (w >>> ((6 : Int32) &&& 31) &&& 7) ++ ([44, 32] ++ ((if w &&& 32 = 0 then rgT (w &&& 7) else nvC (sgS w 5)) ++ [])))))) := by
  unfold lwT
  rw [show sB (opTx.getD 12 0) = nB 0 from by decide +kernel, show sB (opSh.getD 12 0) = [68, 65, 83] from by decide +kernel]
  rfl
theorem lw_13 (w : Int32) : lwT 13 w = nB 0 ++ ([32] ++ (rgT (w >>> ((9 : Int32) &&& 31) &&& 7) ++ ([44, 32] ++ (rgT (w >>> ((6 : Int32) &&& 31) &&& 7) ++ ([44, 32] ++ ((if w &&& 32 = 0 then rgT (w &&& 7) else nvC (sgS w 5)) ++ [])))))) := by
  unfold lwT
  rw [show sB (opTx.getD 13 0) = nB 0 from by decide +kernel, show sB (opSh.getD 13 0) = [68, 65, 83] from by decide +kernel]
  rfl
theorem lw_14 (w : Int32) : lwT 14 w = nB 1 ++ ([32] ++ (rgT (w >>> ((9 : Int32) &&& 31) &&& 7) ++ ([44, 32] ++ (rgT (w >>> ((6 : Int32) &&& 31) &&& 7) ++ ([44, 32] ++ ((if w &&& 32 = 0 then rgT (w &&& 7) else nvC (sgS w 5)) ++ [])))))) := by
  unfold lwT
  rw [show sB (opTx.getD 14 0) = nB 1 from by decide +kernel, show sB (opSh.getD 14 0) = [68, 65, 83] from by decide +kernel]
  rfl
theorem lw_15 (w : Int32) : lwT 15 w = nB 1 ++ ([32] ++ (rgT (w >>> ((9 : Int32) &&& 31) &&& 7) ++ ([44, 32] ++ (rgT (w >>> ((6 : Int32) &&& 31) &&& 7) ++ ([44, 32] ++ ((if w &&& 32 = 0 then rgT (w &&& 7) else nvC (sgS w 5)) ++ [])))))) := by
  unfold lwT
  rw [show sB (opTx.getD 15 0) = nB 1 from by decide +kernel, show sB (opSh.getD 15 0) = [68, 65, 83] from by decide +kernel]
  rfl
theorem lw_16 (w : Int32) : lwT 16 w = nB 2 ++ ([32] ++ (rgT (w >>> ((9 : Int32) &&& 31) &&& 7) ++ ([44, 32] ++ (rgT (w >>> ((6 : Int32) &&& 31) &&& 7) ++ [])))) := by
  unfold lwT
  rw [show sB (opTx.getD 16 0) = nB 2 from by decide +kernel, show sB (opSh.getD 16 0) = [68, 65] from by decide +kernel]
  rfl
theorem lw_17 (w : Int32) : lwT 17 w = nB 3 ++ ([32] ++ (rgT (w >>> ((9 : Int32) &&& 31) &&& 7) ++ ([44, 32] ++ (nvC (sgS w 9) ++ [])))) := by
  unfold lwT
  rw [show sB (opTx.getD 17 0) = nB 3 from by decide +kernel, show sB (opSh.getD 17 0) = [68, 87] from by decide +kernel]
  rfl
theorem lw_18 (w : Int32) : lwT 18 w = nB 4 ++ ([32] ++ (rgT (w >>> ((9 : Int32) &&& 31) &&& 7) ++ ([44, 32] ++ (nvC (sgS w 9) ++ [])))) := by
  unfold lwT
  rw [show sB (opTx.getD 18 0) = nB 4 from by decide +kernel, show sB (opSh.getD 18 0) = [68, 87] from by decide +kernel]
  rfl
theorem lw_19 (w : Int32) : lwT 19 w = nB 5 ++ ([32] ++ (rgT (w >>> ((9 : Int32) &&& 31) &&& 7) ++ ([44, 32] ++ (nvC (sgS w 9) ++ [])))) := by
  unfold lwT
  rw [show sB (opTx.getD 19 0) = nB 5 from by decide +kernel, show sB (opSh.getD 19 0) = [68, 87] from by decide +kernel]
  rfl
theorem lw_20 (w : Int32) : lwT 20 w = nB 6 ++ ([32] ++ (rgT (w >>> ((9 : Int32) &&& 31) &&& 7) ++ ([44, 32] ++ (nvC (sgS w 9) ++ [])))) := by
  unfold lwT
  rw [show sB (opTx.getD 20 0) = nB 6 from by decide +kernel, show sB (opSh.getD 20 0) = [68, 87] from by decide +kernel]
  rfl
theorem lw_21 (w : Int32) : lwT 21 w = nB 7 ++ ([32] ++ (rgT (w >>> ((9 : Int32) &&& 31) &&& 7) ++ ([44, 32] ++ (nvC (sgS w 9) ++ [])))) := by
  unfold lwT
  rw [show sB (opTx.getD 21 0) = nB 7 from by decide +kernel, show sB (opSh.getD 21 0) = [68, 87] from by decide +kernel]
  rfl
theorem lw_22 (w : Int32) : lwT 22 w = nB 8 ++ ([32] ++ (rgT (w >>> ((9 : Int32) &&& 31) &&& 7) ++ ([44, 32] ++ (rgT (w >>> ((6 : Int32) &&& 31) &&& 7) ++ ([44, 32] ++ (nvC (sgS w 6) ++ [])))))) := by
  unfold lwT
  rw [show sB (opTx.getD 22 0) = nB 8 from by decide +kernel, show sB (opSh.getD 22 0) = [68, 65, 79] from by decide +kernel]
  rfl
theorem lw_23 (w : Int32) : lwT 23 w = nB 9 ++ ([32] ++ (rgT (w >>> ((9 : Int32) &&& 31) &&& 7) ++ ([44, 32] ++ (rgT (w >>> ((6 : Int32) &&& 31) &&& 7) ++ ([44, 32] ++ (nvC (sgS w 6) ++ [])))))) := by
  unfold lwT
  rw [show sB (opTx.getD 23 0) = nB 9 from by decide +kernel, show sB (opSh.getD 23 0) = [68, 65, 79] from by decide +kernel]
  rfl
theorem lw_24 (w : Int32) : lwT 24 w = nB 14 ++ [] := by
  unfold lwT
  rw [show sB (opTx.getD 24 0) = nB 14 from by decide +kernel, show sB (opSh.getD 24 0) = [] from by decide +kernel]
  rfl
theorem lw_25 (w : Int32) : lwT 25 w = nB 10 ++ ([32] ++ (rgT (w >>> ((6 : Int32) &&& 31) &&& 7) ++ [])) := by
  unfold lwT
  rw [show sB (opTx.getD 25 0) = nB 10 from by decide +kernel, show sB (opSh.getD 25 0) = [65] from by decide +kernel]
  rfl
theorem lw_26 (w : Int32) : lwT 26 w = nB 11 ++ ([32] ++ (nvC (sgS w 11) ++ [])) := by
  unfold lwT
  rw [show sB (opTx.getD 26 0) = nB 11 from by decide +kernel, show sB (opSh.getD 26 0) = [74] from by decide +kernel]
  rfl
theorem lw_27 (w : Int32) : lwT 27 w = nB 12 ++ ([32] ++ (rgT (w >>> ((6 : Int32) &&& 31) &&& 7) ++ [])) := by
  unfold lwT
  rw [show sB (opTx.getD 27 0) = nB 12 from by decide +kernel, show sB (opSh.getD 27 0) = [65] from by decide +kernel]
  rfl
theorem lw_28 (w : Int32) : lwT 28 w = nB 15 ++ [] := by
  unfold lwT
  rw [show sB (opTx.getD 28 0) = nB 15 from by decide +kernel, show sB (opSh.getD 28 0) = [] from by decide +kernel]
  rfl
theorem lw_35 (w : Int32) : lwT 35 w = nB 13 ++ ([32] ++ (hx2 w ++ [])) := by
  unfold lwT
  rw [show sB (opTx.getD 35 0) = nB 13 from by decide +kernel, show sB (opSh.getD 35 0) = [86] from by decide +kernel]
  rfl
theorem lw_36 (w : Int32) : lwT 36 w = nB 31 ++ ([32] ++ (hx4 w ++ [])) := by
  unfold lwT
  rw [show sB (opTx.getD 36 0) = nB 31 from by decide +kernel, show sB (opSh.getD 36 0) = [70] from by decide +kernel]
  rfl
set_option maxRecDepth 20000 in
set_option maxHeartbeats 4000000 in
theorem T_iBr {X : Nat × (Nat → Int32)} {h0 h : PH} {Q : Option Value → PH → Prop} {L : List Int32} {n : Nat} (hn : n < 65536) (hl : L = []) (ho : n / 4096 = 0) (f : FW h0 h) (q : LW h L) (k1 : ∀ h', FW h0 h' → LW h' (lwT (dN n) (nI n)) → ¬ dN n = 36 → Q (some (.int 1)) h') (k0 : dN n = 36 → Q (some (.int 0)) h) : WP X mX11_isBranch 5 108 0 (en 2 [.ref 25, .int (nI n)]) [] h Q := by
  subst hl
  have c9 : nI n >>> ((9 : Int32) &&& 31) &&& 7 = nI (n / 512 % 8) := by rw [pk_shrN (by omega) _ 9 (by decide), pk_andN (by omega) 3 (by decide)]
  have d0 : dN n = br8.getD (n / 512 % 8) 0 := by unfold dN; rw [sr_12, ho, ld_7]; rfl
  refine w_iload_n dX11_isBranch_0 rfl rfl ?_
  refine w_bipush dX11_isBranch_1 (v := 9) (by decide) ?_
  refine w_ishr dX11_isBranch_3 ?_
  refine w_bipush dX11_isBranch_4 (v := 7) (by decide) ?_
  refine w_iand dX11_isBranch_6 ?_
  refine w_if_ne (tgt := 12) dX11_isBranch_7 (by decide) (fun c_7 => ?_) (fun c_7 => ?_)
  · rw [c9, show (0 : Int32) = nI 0 from rfl, nI_eq (by omega) (by decide)] at c_7
    have be := (br_e (n / 512 % 8) (by omega)).resolve_left c_7
    have hk : 22 + n / 512 % 8 < 35 := by omega
    have nbl : (nB (22 + n / 512 % 8)).length ≤ 8 := (nm_a _ hk).2.2.2.2
    refine w_aload_n dX11_isBranch_12 rfl rfl ?_
    refine w_bipush dX11_isBranch_13 (v := 22) (by decide) ?_
    refine w_iload_n dX11_isBranch_15 rfl rfl ?_
    refine w_bipush dX11_isBranch_16 (v := 9) (by decide) ?_
    refine w_ishr dX11_isBranch_18 ?_
    refine w_bipush dX11_isBranch_19 (v := 7) (by decide) ?_
    refine w_iand dX11_isBranch_21 ?_
    refine w_iadd dX11_isBranch_22 ?_
    refine w_v1 (d2 := 4) (L2 := 85) dX11_isBranch_23 vX11_372 rfl (q.1.lt (by decide)) rfl (by decide) (Nat.le_of_ble_eq_true rfl) (by decide) (by decide) ?_
    rw [c9, show (22 : Int32) + nI (n / 512 % 8) = nI (22 + n / 512 % 8) from nI_add 22 _]
    refine T_sayN hk (by decide) f q (fun ha fa qa => ?_)
    refine k_v rfl ?_
    refine w_aload_n dX11_isBranch_26 rfl rfl ?_
    refine w_bipush dX11_isBranch_27 (v := 32) (by decide) ?_
    refine w_v1 (d2 := 0) (L2 := 0) dX11_isBranch_29 vX11_366 rfl (qa.1.lt (by decide)) rfl (by decide) (Nat.le_of_ble_eq_true rfl) (by decide) (by decide) ?_
    refine T_say (by first | omega | (simp only [List.length_append, List.length_cons, List.length_nil, nB_l, rgT] at *; first | omega | (have := nbl; simp only [nB_l] at this; omega))) fa qa (fun h1 f1 q1 => ?_)
    refine k_v rfl ?_
    refine w_aload_n dX11_isBranch_32 rfl rfl ?_
    refine w_iload_n dX11_isBranch_33 rfl rfl ?_
    refine w_bipush dX11_isBranch_34 (v := 9) (by decide) ?_
    refine w_s2 (d2 := 0) (L2 := 0) dX11_isBranch_36 vX11_154 rfl rfl (by decide) (Nat.le_of_ble_eq_true rfl) (by decide) (by decide) ?_
    refine T_sgM ?_
    refine k_i rfl ?_
    refine w_v1 (d2 := 1) (L2 := 21) dX11_isBranch_39 vX11_384 rfl (q1.1.lt (by decide)) rfl (by decide) (Nat.le_of_ble_eq_true rfl) (by decide) (by decide) ?_
    refine T_snm (by first | omega | (simp only [List.length_append, List.length_cons, List.length_nil, nB_l, rgT] at *; first | omega | (have := nbl; simp only [nB_l] at this; omega))) f1 q1 (fun h2 f2 q2 => ?_)
    refine k_v rfl ?_
    refine w_iconst dX11_isBranch_42 (v := 1) (by decide) ?_
    refine w_iret dX11_isBranch_43 (fun _ e => by cases e; decide) ?_
    refine k1 _ f2 ?_ (by rw [d0]; exact be.2.2)
    rw [d0]
    unfold lwT
    rw [be.1, be.2.1, show opL (nI n) [87] true = [32] ++ (nvC (sgS (nI n) 9) ++ []) from rfl, ← (nv_9 (nI n)).1, ← sg9]
    simp only [List.append_assoc, List.nil_append, List.append_nil, List.cons_append] at q2 ⊢
    exact q2
  · rw [c9, show (0 : Int32) = nI 0 from rfl, nI_eq (by omega) (by decide)] at c_7
    refine w_iconst dX11_isBranch_10 (v := 0) (by decide) ?_
    refine w_iret dX11_isBranch_11 (fun _ e => by cases e; decide) ?_
    exact k0 (by rw [d0, c_7]; rfl)

set_option maxRecDepth 20000 in
set_option maxHeartbeats 4000000 in
theorem T_iThA {X : Nat × (Nat → Int32)} {h0 h : PH} {Q : Option Value → PH → Prop} {L : List Int32} {n : Nat} (hn : n < 65536) (hl : L = []) (ho : n / 4096 = 1) (f : FW h0 h) (q : LW h L) (k1 : ∀ h', FW h0 h' → LW h' (lwT (dN n) (nI n)) → ¬ dN n = 36 → Q (some (.int 1)) h') (k0 : dN n = 36 → Q (some (.int 0)) h) : WP X mX11_isThree 6 130 0 (en 4 [.ref 25, .int 0, .int (nI n)]) [] h Q := by
  subst hl
  refine w_iload_n dX11_isThree_0 rfl rfl ?_
  refine w_iconst dX11_isThree_1 (v := 5) (by decide) ?_
  refine w_ishr dX11_isThree_2 ?_
  refine w_iconst dX11_isThree_3 (v := 1) (by decide) ?_
  refine w_iand dX11_isThree_4 ?_
  refine w_iconst dX11_isThree_5 (v := 1) (by decide) ?_
  refine w_icmp_ne (tgt := 13) dX11_isThree_6 (by decide) (fun c_6 => ?_) (fun c_6 => ?_)
  · refine w_iconst dX11_isThree_13 (v := 0) (by decide) ?_
    refine w_istore_n dX11_isThree_14 rfl (by decide) ?_
    refine w_iload_n dX11_isThree_15 rfl rfl ?_
    refine w_if_ne (tgt := 29) dX11_isThree_16 (by decide) (fun c_16 => absurd c_16 (not_not_intro rfl)) (fun c_16 => ?_)
    refine w_iload_n dX11_isThree_19 rfl rfl ?_
    refine w_iconst dX11_isThree_20 (v := 3) (by decide) ?_
    refine w_ishr dX11_isThree_21 ?_
    refine w_iconst dX11_isThree_22 (v := 3) (by decide) ?_
    refine w_iand dX11_isThree_23 ?_
    refine w_if_eq (tgt := 29) dX11_isThree_24 (by decide) (fun c_24 => ?_) (fun c_24 => ?_)
    · rw [show nI n >>> ((3 : Int32) &&& 31) &&& 3 = nI (n / 8 % 4) from by rw [pk_shrN (by omega) _ 3 (by decide), pk_andN (by omega) 2 (by decide)], show (0 : Int32) = nI 0 from rfl, nI_eq (by omega) (by decide)] at c_24
      refine w_aload_n dX11_isThree_29 rfl rfl ?_
      refine w_iload_n dX11_isThree_30 rfl rfl ?_
      refine w_iload_n dX11_isThree_31 rfl rfl ?_
      refine w_v2 (d2 := 5) (L2 := 108) dX11_isThree_32 vX11_399 rfl (q.1.lt (by decide)) rfl rfl (by decide) (Nat.le_of_ble_eq_true rfl) (by decide) (by decide) ?_
      refine T_sTw (k9 := 0) (by decide) rfl f q (fun h1 f1 q1 => ?_)
      refine k_v rfl ?_
      refine w_aload_n dX11_isThree_35 rfl rfl ?_
      refine w_v0 (d2 := 1) (L2 := 21) dX11_isThree_36 vX11_381 rfl (q1.1.lt (by decide)) (by decide) (Nat.le_of_ble_eq_true rfl) (by decide) (by decide) ?_
      refine T_sbt (Nat.le_of_ble_eq_true rfl) f1 q1 (fun h2 f2 q2 => ?_)
      refine k_v rfl ?_
      refine w_iload_n dX11_isThree_39 rfl rfl ?_
      refine w_if_eq (tgt := 55) dX11_isThree_40 (by decide) (fun c_40 => ?_) (fun c_40 => absurd c_40 (not_not_intro rfl))
      refine w_aload_n dX11_isThree_55 rfl rfl ?_
      refine w_iload_n dX11_isThree_56 rfl rfl ?_
      refine w_bipush dX11_isThree_57 (v := 7) (by decide) ?_
      refine w_iand dX11_isThree_59 ?_
      refine w_v1 (d2 := 1) (L2 := 21) dX11_isThree_60 vX11_378 rfl (q2.1.lt (by decide)) rfl (by decide) (Nat.le_of_ble_eq_true rfl) (by decide) (by decide) ?_
      refine T_srg (Nat.le_of_ble_eq_true rfl) f2 q2 (fun h3 f3 q3 => ?_)
      refine k_v rfl ?_
      refine w_iconst dX11_isThree_63 (v := 1) (by decide) ?_
      refine w_iret dX11_isThree_64 (fun _ e => by cases e; decide) ?_
      have b := (bt_32 hn).2 c_6
      have dk : dN n = 12 := by
        unfold dN; rw [sr_12, ho]
        show (bif Nat.beq (Nat.land n 32) 32 then 13 else bif Nat.beq (Nat.land n 24) 0 then 12 else 36) = 12
        rw [b.1, ld_24, c_24]; rfl
      rw [dk] at k1
      refine k1 _ f3 ?_ (by decide)
      rw [lw_12, if_pos b.2]
      simp only [List.append_assoc, List.nil_append, List.append_nil, List.cons_append] at q3 ⊢
      exact q3
    · rw [show nI n >>> ((3 : Int32) &&& 31) &&& 3 = nI (n / 8 % 4) from by rw [pk_shrN (by omega) _ 3 (by decide), pk_andN (by omega) 2 (by decide)], show (0 : Int32) = nI 0 from rfl, nI_eq (by omega) (by decide)] at c_24
      refine w_iconst dX11_isThree_27 (v := 0) (by decide) ?_
      refine w_iret dX11_isThree_28 (fun _ e => by cases e; decide) ?_
      have b := (bt_32 hn).2 c_6
      refine k0 ?_
      unfold dN; rw [sr_12, ho]
      show (bif Nat.beq (Nat.land n 32) 32 then 13 else bif Nat.beq (Nat.land n 24) 0 then 12 else 36) = 36
      rw [b.1, ld_24, show Nat.beq (n / 8 % 4 * 8) 0 = false from Bool.eq_false_iff.mpr (fun e => c_24 (by have := Nat.eq_of_beq_eq_true e; omega))]; rfl
  · refine w_iconst dX11_isThree_9 (v := 1) (by decide) ?_
    refine w_goto (tgt := 14) dX11_isThree_10 (by decide) ?_
    refine w_istore_n dX11_isThree_14 rfl (by decide) ?_
    refine w_iload_n dX11_isThree_15 rfl rfl ?_
    refine w_if_ne (tgt := 29) dX11_isThree_16 (by decide) (fun c_16 => ?_) (fun c_16 => absurd c_16 (by decide))
    refine w_aload_n dX11_isThree_29 rfl rfl ?_
    refine w_iload_n dX11_isThree_30 rfl rfl ?_
    refine w_iload_n dX11_isThree_31 rfl rfl ?_
    refine w_v2 (d2 := 5) (L2 := 108) dX11_isThree_32 vX11_399 rfl (q.1.lt (by decide)) rfl rfl (by decide) (Nat.le_of_ble_eq_true rfl) (by decide) (by decide) ?_
    refine T_sTw (k9 := 0) (by decide) rfl f q (fun h4 f4 q4 => ?_)
    refine k_v rfl ?_
    refine w_aload_n dX11_isThree_35 rfl rfl ?_
    refine w_v0 (d2 := 1) (L2 := 21) dX11_isThree_36 vX11_381 rfl (q4.1.lt (by decide)) (by decide) (Nat.le_of_ble_eq_true rfl) (by decide) (by decide) ?_
    refine T_sbt (Nat.le_of_ble_eq_true rfl) f4 q4 (fun h5 f5 q5 => ?_)
    refine k_v rfl ?_
    refine w_iload_n dX11_isThree_39 rfl rfl ?_
    refine w_if_eq (tgt := 55) dX11_isThree_40 (by decide) (fun c_40 => absurd c_40 (by decide)) (fun c_40 => ?_)
    refine w_aload_n dX11_isThree_43 rfl rfl ?_
    refine w_iload_n dX11_isThree_44 rfl rfl ?_
    refine w_iconst dX11_isThree_45 (v := 5) (by decide) ?_
    refine w_s2 (d2 := 0) (L2 := 0) dX11_isThree_46 vX11_154 rfl rfl (by decide) (Nat.le_of_ble_eq_true rfl) (by decide) (by decide) ?_
    refine T_sgM ?_
    refine k_i rfl ?_
    refine w_v1 (d2 := 1) (L2 := 21) dX11_isThree_49 vX11_384 rfl (q5.1.lt (by decide)) rfl (by decide) (Nat.le_of_ble_eq_true rfl) (by decide) (by decide) ?_
    refine T_snm (Nat.le_of_ble_eq_true rfl) f5 q5 (fun h6 f6 q6 => ?_)
    refine k_v rfl ?_
    refine w_goto (tgt := 63) dX11_isThree_52 (by decide) ?_
    refine w_iconst dX11_isThree_63 (v := 1) (by decide) ?_
    refine w_iret dX11_isThree_64 (fun _ e => by cases e; decide) ?_
    have b := (bt_32 hn).1 c_6
    have dk : dN n = 13 := by
      unfold dN; rw [sr_12, ho]
      show (bif Nat.beq (Nat.land n 32) 32 then 13 else bif Nat.beq (Nat.land n 24) 0 then 12 else 36) = 13
      rw [b.1]; rfl
    rw [dk] at k1
    refine k1 _ f6 ?_ (by decide)
    rw [lw_13, if_neg b.2, ← (nv_5 (nI n)).1, ← sg5]
    simp only [List.append_assoc, List.nil_append, List.append_nil, List.cons_append] at q6 ⊢
    exact q6

set_option maxRecDepth 20000 in
set_option maxHeartbeats 4000000 in
theorem T_iThN {X : Nat × (Nat → Int32)} {h0 h : PH} {Q : Option Value → PH → Prop} {L : List Int32} {n : Nat} (hn : n < 65536) (hl : L = []) (ho : n / 4096 = 5) (f : FW h0 h) (q : LW h L) (k1 : ∀ h', FW h0 h' → LW h' (lwT (dN n) (nI n)) → ¬ dN n = 36 → Q (some (.int 1)) h') (k0 : dN n = 36 → Q (some (.int 0)) h) : WP X mX11_isThree 6 130 0 (en 4 [.ref 25, .int 1, .int (nI n)]) [] h Q := by
  subst hl
  refine w_iload_n dX11_isThree_0 rfl rfl ?_
  refine w_iconst dX11_isThree_1 (v := 5) (by decide) ?_
  refine w_ishr dX11_isThree_2 ?_
  refine w_iconst dX11_isThree_3 (v := 1) (by decide) ?_
  refine w_iand dX11_isThree_4 ?_
  refine w_iconst dX11_isThree_5 (v := 1) (by decide) ?_
  refine w_icmp_ne (tgt := 13) dX11_isThree_6 (by decide) (fun c_6 => ?_) (fun c_6 => ?_)
  · refine w_iconst dX11_isThree_13 (v := 0) (by decide) ?_
    refine w_istore_n dX11_isThree_14 rfl (by decide) ?_
    refine w_iload_n dX11_isThree_15 rfl rfl ?_
    refine w_if_ne (tgt := 29) dX11_isThree_16 (by decide) (fun c_16 => absurd c_16 (not_not_intro rfl)) (fun c_16 => ?_)
    refine w_iload_n dX11_isThree_19 rfl rfl ?_
    refine w_iconst dX11_isThree_20 (v := 3) (by decide) ?_
    refine w_ishr dX11_isThree_21 ?_
    refine w_iconst dX11_isThree_22 (v := 3) (by decide) ?_
    refine w_iand dX11_isThree_23 ?_
    refine w_if_eq (tgt := 29) dX11_isThree_24 (by decide) (fun c_24 => ?_) (fun c_24 => ?_)
    · rw [show nI n >>> ((3 : Int32) &&& 31) &&& 3 = nI (n / 8 % 4) from by rw [pk_shrN (by omega) _ 3 (by decide), pk_andN (by omega) 2 (by decide)], show (0 : Int32) = nI 0 from rfl, nI_eq (by omega) (by decide)] at c_24
      refine w_aload_n dX11_isThree_29 rfl rfl ?_
      refine w_iload_n dX11_isThree_30 rfl rfl ?_
      refine w_iload_n dX11_isThree_31 rfl rfl ?_
      refine w_v2 (d2 := 5) (L2 := 108) dX11_isThree_32 vX11_399 rfl (q.1.lt (by decide)) rfl rfl (by decide) (Nat.le_of_ble_eq_true rfl) (by decide) (by decide) ?_
      refine T_sTw (k9 := 1) (by decide) rfl f q (fun h1 f1 q1 => ?_)
      refine k_v rfl ?_
      refine w_aload_n dX11_isThree_35 rfl rfl ?_
      refine w_v0 (d2 := 1) (L2 := 21) dX11_isThree_36 vX11_381 rfl (q1.1.lt (by decide)) (by decide) (Nat.le_of_ble_eq_true rfl) (by decide) (by decide) ?_
      refine T_sbt (Nat.le_of_ble_eq_true rfl) f1 q1 (fun h2 f2 q2 => ?_)
      refine k_v rfl ?_
      refine w_iload_n dX11_isThree_39 rfl rfl ?_
      refine w_if_eq (tgt := 55) dX11_isThree_40 (by decide) (fun c_40 => ?_) (fun c_40 => absurd c_40 (not_not_intro rfl))
      refine w_aload_n dX11_isThree_55 rfl rfl ?_
      refine w_iload_n dX11_isThree_56 rfl rfl ?_
      refine w_bipush dX11_isThree_57 (v := 7) (by decide) ?_
      refine w_iand dX11_isThree_59 ?_
      refine w_v1 (d2 := 1) (L2 := 21) dX11_isThree_60 vX11_378 rfl (q2.1.lt (by decide)) rfl (by decide) (Nat.le_of_ble_eq_true rfl) (by decide) (by decide) ?_
      refine T_srg (Nat.le_of_ble_eq_true rfl) f2 q2 (fun h3 f3 q3 => ?_)
      refine k_v rfl ?_
      refine w_iconst dX11_isThree_63 (v := 1) (by decide) ?_
      refine w_iret dX11_isThree_64 (fun _ e => by cases e; decide) ?_
      have b := (bt_32 hn).2 c_6
      have dk : dN n = 14 := by
        unfold dN; rw [sr_12, ho]
        show (bif Nat.beq (Nat.land n 32) 32 then 15 else bif Nat.beq (Nat.land n 24) 0 then 14 else 36) = 14
        rw [b.1, ld_24, c_24]; rfl
      rw [dk] at k1
      refine k1 _ f3 ?_ (by decide)
      rw [lw_14, if_pos b.2]
      simp only [List.append_assoc, List.nil_append, List.append_nil, List.cons_append] at q3 ⊢
      exact q3
    · rw [show nI n >>> ((3 : Int32) &&& 31) &&& 3 = nI (n / 8 % 4) from by rw [pk_shrN (by omega) _ 3 (by decide), pk_andN (by omega) 2 (by decide)], show (0 : Int32) = nI 0 from rfl, nI_eq (by omega) (by decide)] at c_24
      refine w_iconst dX11_isThree_27 (v := 0) (by decide) ?_
      refine w_iret dX11_isThree_28 (fun _ e => by cases e; decide) ?_
      have b := (bt_32 hn).2 c_6
      refine k0 ?_
      unfold dN; rw [sr_12, ho]
      show (bif Nat.beq (Nat.land n 32) 32 then 15 else bif Nat.beq (Nat.land n 24) 0 then 14 else 36) = 36
      rw [b.1, ld_24, show Nat.beq (n / 8 % 4 * 8) 0 = false from Bool.eq_false_iff.mpr (fun e => c_24 (by have := Nat.eq_of_beq_eq_true e; omega))]; rfl
  · refine w_iconst dX11_isThree_9 (v := 1) (by decide) ?_
    refine w_goto (tgt := 14) dX11_isThree_10 (by decide) ?_
    refine w_istore_n dX11_isThree_14 rfl (by decide) ?_
    refine w_iload_n dX11_isThree_15 rfl rfl ?_
    refine w_if_ne (tgt := 29) dX11_isThree_16 (by decide) (fun c_16 => ?_) (fun c_16 => absurd c_16 (by decide))
    refine w_aload_n dX11_isThree_29 rfl rfl ?_
    refine w_iload_n dX11_isThree_30 rfl rfl ?_
    refine w_iload_n dX11_isThree_31 rfl rfl ?_
    refine w_v2 (d2 := 5) (L2 := 108) dX11_isThree_32 vX11_399 rfl (q.1.lt (by decide)) rfl rfl (by decide) (Nat.le_of_ble_eq_true rfl) (by decide) (by decide) ?_
    refine T_sTw (k9 := 1) (by decide) rfl f q (fun h4 f4 q4 => ?_)
    refine k_v rfl ?_
    refine w_aload_n dX11_isThree_35 rfl rfl ?_
    refine w_v0 (d2 := 1) (L2 := 21) dX11_isThree_36 vX11_381 rfl (q4.1.lt (by decide)) (by decide) (Nat.le_of_ble_eq_true rfl) (by decide) (by decide) ?_
    refine T_sbt (Nat.le_of_ble_eq_true rfl) f4 q4 (fun h5 f5 q5 => ?_)
    refine k_v rfl ?_
    refine w_iload_n dX11_isThree_39 rfl rfl ?_
    refine w_if_eq (tgt := 55) dX11_isThree_40 (by decide) (fun c_40 => absurd c_40 (by decide)) (fun c_40 => ?_)
    refine w_aload_n dX11_isThree_43 rfl rfl ?_
    refine w_iload_n dX11_isThree_44 rfl rfl ?_
    refine w_iconst dX11_isThree_45 (v := 5) (by decide) ?_
    refine w_s2 (d2 := 0) (L2 := 0) dX11_isThree_46 vX11_154 rfl rfl (by decide) (Nat.le_of_ble_eq_true rfl) (by decide) (by decide) ?_
    refine T_sgM ?_
    refine k_i rfl ?_
    refine w_v1 (d2 := 1) (L2 := 21) dX11_isThree_49 vX11_384 rfl (q5.1.lt (by decide)) rfl (by decide) (Nat.le_of_ble_eq_true rfl) (by decide) (by decide) ?_
    refine T_snm (Nat.le_of_ble_eq_true rfl) f5 q5 (fun h6 f6 q6 => ?_)
    refine k_v rfl ?_
    refine w_goto (tgt := 63) dX11_isThree_52 (by decide) ?_
    refine w_iconst dX11_isThree_63 (v := 1) (by decide) ?_
    refine w_iret dX11_isThree_64 (fun _ e => by cases e; decide) ?_
    have b := (bt_32 hn).1 c_6
    have dk : dN n = 15 := by
      unfold dN; rw [sr_12, ho]
      show (bif Nat.beq (Nat.land n 32) 32 then 15 else bif Nat.beq (Nat.land n 24) 0 then 14 else 36) = 15
      rw [b.1]; rfl
    rw [dk] at k1
    refine k1 _ f6 ?_ (by decide)
    rw [lw_15, if_neg b.2, ← (nv_5 (nI n)).1, ← sg5]
    simp only [List.append_assoc, List.nil_append, List.append_nil, List.cons_append] at q6 ⊢
    exact q6

