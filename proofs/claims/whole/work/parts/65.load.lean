/-! load() of both -/
def ldS : MS → Nat → List Int32 → MS
  | σ, _, [] => σ
  | σ, o, w :: l => ldS (sM σ o w) (o + 1) l
theorem ldS_G {k : Nat} {v : Int32} : ∀ (l : List Int32) (σ : MS) (o : Nat), ldS (sG σ k v) o l = sG (ldS σ o l) k v
  | [], _, _ => rfl
  | w :: l, σ, o => by rw [ldS, ldS, ← ldS_G l]; rfl
theorem ldS_K {ks : List Int32} : ∀ (l : List Int32) (σ : MS) (o : Nat), ldS (sK σ ks) o l = sK (ldS σ o l) ks
  | [], _, _ => rfl
  | w :: l, σ, o => by rw [ldS, ldS, ← ldS_K l]; rfl
theorem ldS_c : ∀ (m : Nat) (l : List Int32) (σ : MS) (o n : Nat), ldS (clL m σ n) o l = clL m (ldS σ o l) n
  | 0, _, _, _, _ => rfl
  | m + 1, l, σ, o, n => by rw [clL, clL, ldS_c m l, ldS_G]
theorem ldS_f (l : List Int32) (τ : MS) (o : Nat) (v : Int32) : ldS (sG (mfir τ) 8 v) o l = sG (mfir (ldS τ o l)) 8 v := by
  unfold mfir
  rw [ldS_G, ldS_K, ldS_G, ldS_G, ldS_G, ldS_G, ldS_G, ldS_G, ldS_c]
theorem Rw.ld {d x y : Int32} : ∀ (l : List Int32) (σ τ : MS) (o : Nat), Rw d x y σ τ → (∀ v ∈ l, W16 v) → Rw d x y (ldS σ o l) (ldS τ o l)
  | [], _, _, _, q, _ => q
  | w :: l, σ, τ, o, q, h => Rw.ld l _ _ _ (q.mem (h w List.mem_cons_self)) (fun v hv => h v (List.mem_cons_of_mem _ hv))
def loC (σ : MS) (o : Nat) (l : List Int32) : MS := sG (sG (sG (sK (sG (clrS (ldS σ o l)) 8 (nI o &&& 65535)) []) 13 0) 14 0) 12 0
theorem W16.n {n : Nat} (h : n < 65536) : W16 (nI n) := ⟨n, h, rfl⟩
theorem Rw.cl {d x y : Int32} : ∀ (m n : Nat) (σ τ : MS), n + m ≤ 8 → Rw d x y σ τ → Rw d x y (clL m σ n) (clL m τ n)
  | 0, _, _, _, _, q => q
  | m + 1, n, σ, τ, h, q => Rw.cl m (n + 1) _ _ (by omega) (q.G ⟨by omega, by omega, by omega⟩ (fun _ => W16.n (n := 0) (by decide)))
theorem G_G {σ : MS} {k : Nat} {v w : Int32} : sG (sG σ k v) k w = sG σ k w := by
  unfold sG
  congr 1
  funext j
  show va_up (va_up σ.1 k v) k w j = va_up σ.1 k w j
  rw [va_upv, va_upv, va_upv]
  by_cases e : j = k
  · rw [if_pos e, if_pos e]
  · rw [if_neg e, if_neg e, if_neg e]
theorem G_C {σ : MS} {j k : Nat} {v w : Int32} (h : j ≠ k) : sG (sG σ j v) k w = sG (sG σ k w) j v := by
  unfold sG
  congr 1
  funext i
  show va_up (va_up σ.1 j v) k w i = va_up (va_up σ.1 k w) j v i
  rw [va_upv, va_upv, va_upv, va_upv]
  by_cases e : i = k
  · by_cases g : i = j
    · exact absurd (g.symm.trans e) h
    · rw [if_pos e, if_neg g, if_pos e]
  · rw [if_neg e]
    by_cases g : i = j
    · rw [if_pos g, if_pos g]
    · rw [if_neg g, if_neg g, if_neg e]
theorem Rw.load {d x y : Int32} {σ τ : MS} {o : Nat} {l : List Int32} (q : Rw d x y σ τ) (ho : o < 65536) (hl : ∀ v ∈ l, W16 v) : Rw d x y (loC σ o l) (ldS (sG (mfir τ) 8 (nI o)) o l) := by
  rw [ldS_f]
  have h1 := Rw.cl 8 0 _ _ (by decide) (q.ld l _ _ o hl)
  unfold loC mfir clrS
  rw [(W16.n ho).c]
  have hz : W16 0 := W16.n (n := 0) (by decide)
  have e1 : sG (sG (sG (sG (sG (clL 8 (ldS σ o l) 0) 8 12288) 9 32770) 10 12288) 11 65024) 8 (nI o) = sG (sG (sG (sG (clL 8 (ldS σ o l) 0) 9 32770) 10 12288) 11 65024) 8 (nI o) := by
    rw [G_C (j := 11) (k := 8) (by decide), G_C (j := 10) (k := 8) (by decide), G_C (j := 9) (k := 8) (by decide), G_G, G_C (j := 11) (k := 8) (by decide), G_C (j := 10) (k := 8) (by decide), G_C (j := 9) (k := 8) (by decide)]
  rw [e1]
  have e2 : ∀ ρ : MS, sG (sK (sG (sG (sG ρ 12 0) 14 0) 13 0) []) 8 (nI o) = sG (sG (sG (sK (sG ρ 8 (nI o)) []) 13 0) 14 0) 12 0 := by
    intro ρ
    have k1 : ∀ (ρ : MS) (k : Nat) (v : Int32), sK (sG ρ k v) [] = sG (sK ρ []) k v := fun _ _ _ => rfl
    rw [k1, k1, k1, k1, G_C (j := 13) (k := 8) (by decide), G_C (j := 14) (k := 8) (by decide), G_C (j := 12) (k := 8) (by decide), G_C (j := 14) (k := 13) (by decide), G_C (j := 12) (k := 13) (by decide), G_C (j := 12) (k := 14) (by decide)]
  rw [e2]
  have h2 := ((((h1.G (k := 9) (v := 32770) (by decide) (fun _ => W16.n (n := 32770) (by decide))).G (k := 10) (v := 12288) (by decide) (fun _ => W16.n (n := 12288) (by decide))).G (k := 11) (v := 65024) (by decide) (fun _ => W16.n (n := 65024) (by decide))).G (k := 8) (v := nI o) (by decide) (fun _ => W16.n ho))
  exact (((h2.K (ks := []) (fun _ h => by cases h)).G (k := 13) (by decide) (fun _ => hz)).b14 (u := 0) rfl).G (k := 12) (by decide) (fun _ => hz)
theorem ix_n {n : Nat} (h : n < 65536) : ix (nI n) = n := by rw [← (W16.n h).ixe, nI_clamp (by omega)]
theorem sm_w {T : List Int32} {sec : Bool} {i s : Nat} {a b : AS} (ha : ∀ v ∈ a.2.2.2.2.1, W16 v) (h : smS T sec i s a = .inr b) : ∀ v ∈ b.2.2.2.2.1, W16 v := by
  have wn : ∀ x : Int32, W16 (x &&& 65535) := fun x => W16.and 65535 (n := 65535) (by decide) rfl
  have w0 : W16 0 := W16.n (n := 0) (by decide)
  have ap : ∀ l : List Int32, (∀ v ∈ l, W16 v) → ∀ v ∈ a.2.2.2.2.1 ++ l, W16 v := fun l hl v hv => (List.mem_append.mp hv).elim (ha v) (hl v)
  unfold smS at h
  split at h
  · split at h
    · split at h
      · cases h
      split at h
      · cases h
      cases h; exact ha
    · cases h
  split at h
  · split at h
    · split at h
      · cases h
      split at h
      · cases h
      split at h
      · cases h; exact ap _ (fun v hv => by rw [(List.mem_replicate.mp hv).2]; exact w0)
      · cases h
    · cases h
  split at h
  · split at h
    · split at h
      · cases h
        intro v hv
        rcases List.mem_append.mp hv with hv | hv
        · exact ap _ (fun v hv => by obtain ⟨x, _, rfl⟩ := List.mem_map.mp hv; exact wn x) v hv
        · rw [List.mem_singleton.mp hv]; exact w0
      · cases h
    · cases h
  split at h
  · cases h; exact ha
  split at h
  · split at h
    · cases h
    · cases h; exact ap _ (fun v hv => by rw [List.mem_singleton.mp hv]; exact wn _)
  · cases h
theorem bd_w {T : List Int32} {sec : Bool} {s : Nat} {a b : AS} (ha : ∀ v ∈ a.2.2.2.2.1, W16 v) (h : bdS T sec s a = .inr b) : ∀ v ∈ b.2.2.2.2.1, W16 v := by
  unfold bdS at h
  split at h
  · cases h; exact ha
  split at h
  · split at h
    · cases h
    · rename_i c e
      rw [en_b h]; exact sm_w ha e
  · cases h
theorem ln_w {T : List Int32} {sec : Bool} {a b : AS} (ha : ∀ v ∈ a.2.2.2.2.1, W16 v) (h : lnS T sec a = .inr b) : ∀ v ∈ b.2.2.2.2.1, W16 v := by
  unfold lnS at h
  split at h
  · split at h
    · cases h
    · rename_i c e
      exact bd_w (by rw [(te_o e).2.2]; exact ha) h
  · exact bd_w ha h
theorem psL_w {T : List Int32} {sec : Bool} : ∀ (m : Nat) (a b : AS), (∀ v ∈ a.2.2.2.2.1, W16 v) → psL T sec m a = .inr b → ∀ v ∈ b.2.2.2.2.1, W16 v
  | 0, a, b, ha, h => by cases h; exact ha
  | m + 1, a, b, ha, h => by
    rw [psL] at h
    split at h
    · split at h
      · cases h
      · rename_i c e
        split at h
        · cases h; exact ln_w ha e
        · exact psL_w m (c.1 + 1, c.2) b (show ∀ v ∈ c.2.2.2.2.1, W16 v from ln_w ha e) h
    · cases h; exact ha
theorem as_w {T : List Int32} {κ : KE} (hk : ∀ v ∈ κ.2.2.2.1, W16 v) : ∀ v ∈ (asS T κ).2.2.2.1, W16 v := by
  unfold asS
  split
  · exact hk
  · split
    · exact hk
    · rename_i b e
      unfold psS at e
      split at e
      · cases e
      · rename_i c e2
        split at e
        · cases e; exact psL_w _ _ _ (fun v hv => by cases hv) e2
        · cases e
set_option maxRecDepth 20000 in
set_option maxHeartbeats 4000000 in
theorem L_rs9 {X : Nat × (Nat → Int32)} {h0 : PH} {Q : Option Value → PH → Prop} {w : List Int32 × List Nat × Nat} (pg : PG 9 h0 w) (hw : ∀ v ∈ w.1, W16 v) : ∀ (m i : Nat) (h : PH) (σ : MS), i + m = w.1.length → Fm h0 h → RC h σ → (∀ h', Fm h0 h' → RC h' (ldS σ (w.2.2 + i) (w.1.drop i)) → WP X mX3_restart 1 23 35 [some (.ref 13), some (.ref 9), some (.int (nI w.1.length))] [] h' Q) → WP X mX3_restart 1 23 2 [some (.ref 13), some (.ref 9), some (.int (nI i))] [] h Q := by
  have hl := pg.1.2
  intro m
  induction m with
  | zero =>
    intro i h σ hi f q k
    have hi2 : i = w.1.length := by omega
    subst hi2
    rw [List.drop_eq_nil_of_le (Nat.le_refl _)] at k
    have z2 : hI h 9 2 = nI w.1.length := (congrFun (f.2.2.2.2.1 9 (by decide) (Or.inl (by decide))) 2).trans pg.1.1
    refine w_iload_n dX3_restart_2 rfl rfl ?_
    refine w_aload_n dX3_restart_3 rfl rfl ?_
    refine w_gi q.1 dX3_restart_4 fX3_51 rfl rfl (by decide) ?_
    refine w_icmp_ge (tgt := 35) dX3_restart_7 (by decide) (fun c_7 => ?_) (fun c_7 => absurd c_7 (not_not_intro (by rw [z2]; exact Int32.le_refl _)))
    exact k _ f q
  | succ m ih =>
    intro i h σ hi f q k
    have hil : i < w.1.length := by omega
    have hv : w.1[i]? = some w.1[i] := List.getElem?_eq_getElem hil
    have z2 : hI h 9 2 = nI w.1.length := (congrFun (f.2.2.2.2.1 9 (by decide) (Or.inl (by decide))) 2).trans pg.1.1
    have z4 : hI h 9 4 = nI w.2.2 := (congrFun (f.2.2.2.2.1 9 (by decide) (Or.inl (by decide))) 4).trans pg.2.2.2.2.1
    have zw : hI h 10 i = w.1[i] := (congrFun (f.2.2.2.2.1 10 (by decide) (Or.inl (by decide))) i).trans (pg.2.1 i _ hv)
    have ho := pg.2.2.2.2.2.2
    refine w_iload_n dX3_restart_2 rfl rfl ?_
    refine w_aload_n dX3_restart_3 rfl rfl ?_
    refine w_gi q.1 dX3_restart_4 fX3_51 rfl rfl (by decide) ?_
    refine w_icmp_ge (tgt := 35) dX3_restart_7 (by decide) (fun c_7 => absurd c_7 (by rw [z2]; exact nI_ge (by omega) (by omega))) (fun c_7 => ?_)
    refine w_aload_n dX3_restart_10 rfl rfl ?_
    refine w_gs (b := 16) q.1 dX3_restart_11 fX3_21 (by decide) rfl rfl (by decide) ?_
    refine w_aload_n dX3_restart_14 rfl rfl ?_
    refine w_gi q.1 dX3_restart_15 fX3_56 rfl rfl (by decide) ?_
    refine w_iload_n dX3_restart_18 rfl rfl ?_
    refine w_iadd dX3_restart_19 ?_
    refine w_aload_n dX3_restart_20 rfl rfl ?_
    refine w_gs (b := 10) q.1 dX3_restart_21 fX3_59 (by decide) rfl rfl (by decide) ?_
    refine w_iload_n dX3_restart_24 rfl rfl ?_
    refine w_iaload dX3_restart_25 rfl (q.1.lt (by decide)) (vp_in_nI (show i < 4096 by omega) (by decide)) ?_
    refine w_v2 (d2 := 0) (L2 := 0) dX3_restart_26 vX3_62 rfl (q.1.lt (by decide)) rfl rfl (by decide) (Nat.le_of_ble_eq_true rfl) (by decide) (by decide) ?_
    refine T_keep2 f q (fun hz fz qz => ?_)
    rw [z4, nI_add, ix_n (by omega), nI_clamp (by omega), zw, (hw _ (List.getElem_mem hil)).c] at qz
    refine k_v rfl ?_
    refine w_iinc (v := (nI (i + 1))) dX3_restart_29 rfl (nI_1 i) (by decide) ?_
    refine w_goto (tgt := 2) dX3_restart_32 (by decide) ?_
    exact ih (i + 1) _ _ (by omega) fz qz (fun h9 f9 q9 => k h9 f9 (by rw [dr_s hv, ldS]; exact q9))

set_option maxRecDepth 20000 in
set_option maxHeartbeats 4000000 in
theorem T_rs9 {X : Nat × (Nat → Int32)} {h : PH} {Q : Option Value → PH → Prop} {σ : MS} {w : List Int32 × List Nat × Nat} (pg : PG 9 h w) (hw : ∀ v ∈ w.1, W16 v) (q : RC h σ) (k : ∀ h', Fm h h' → RC h' (loC σ w.2.2 w.1) → Q none h') : WP X mX3_restart 1 23 0 (en 3 [.ref 13, .ref 9]) [] h Q := by
  refine w_iconst dX3_restart_0 (v := 0) (by decide) ?_
  refine w_istore_n dX3_restart_1 rfl (by decide) ?_
  refine L_rs9 pg hw w.1.length 0 _ _ (by omega) Fm.rf q (fun ha fa qa => ?_)
  rw [Nat.add_zero, List.drop_zero] at qa
  have z4 : hI ha 9 4 = nI w.2.2 := (congrFun (fa.2.2.2.2.1 9 (by decide) (Or.inl (by decide))) 4).trans pg.2.2.2.2.1
  refine w_aload_n dX3_restart_35 rfl rfl ?_
  refine w_v0 (d2 := 0) (L2 := 0) dX3_restart_36 vX3_46 rfl (qa.1.lt (by decide)) (by decide) (Nat.le_of_ble_eq_true rfl) (by decide) (by decide) ?_
  refine T_clr fa qa (fun hb fb qb => ?_)
  have z4b : hI hb 9 4 = nI w.2.2 := (congrFun (fb.2.2.2.2.1 9 (by decide) (Or.inl (by decide))) 4).trans pg.2.2.2.2.1
  refine k_v rfl ?_
  refine w_aload_n dX3_restart_39 rfl rfl ?_
  refine w_gs (b := 14) qb.1 dX3_restart_40 fX3_9 (by decide) rfl rfl (by decide) ?_
  refine w_bipush dX3_restart_43 (v := 8) (by decide) ?_
  refine w_aload_n dX3_restart_45 rfl rfl ?_
  refine w_gi qb.1 dX3_restart_46 fX3_56 rfl rfl (by decide) ?_
  refine w_ldc dX3_restart_49 kX3_66 ?_
  refine w_iand dX3_restart_51 ?_
  refine r_put (k := 8) fb qb dX3_restart_52 (by decide) (vin (by decide)) (fun h1 f1 q1 => ?_)
  refine w_aload_n dX3_restart_53 rfl rfl ?_
  refine w_gs (b := 18) q1.1 dX3_restart_54 fX3_28 (by decide) rfl rfl (by decide) ?_
  refine w_v0 (d2 := 0) (L2 := 0) dX3_restart_57 vX3_67 rfl (q1.1.lt (by decide)) (by decide) (Nat.le_of_ble_eq_true rfl) (by decide) (by decide) ?_
  refine T_clear q1 (fun hc gc qc => ?_)
  have fc := f1.tr gc
  refine k_v rfl ?_
  refine w_aload_n dX3_restart_60 rfl rfl ?_
  refine w_iconst dX3_restart_61 (v := 0) (by decide) ?_
  refine x_put fc qc dX3_restart_62 fX3_39 (RC.state qc) rfl rfl (by decide) (fun h2 f2 q2 => ?_)
  refine w_vret dX3_restart_65 ?_
  rw [z4b] at q2
  exact k _ f2 q2

set_option maxRecDepth 20000 in
set_option maxHeartbeats 4000000 in
theorem L_rs6 {X : Nat × (Nat → Int32)} {h0 : PH} {Q : Option Value → PH → Prop} {w : List Int32 × List Nat × Nat} (pg : PG 6 h0 w) (hw : ∀ v ∈ w.1, W16 v) : ∀ (m i : Nat) (h : PH) (σ : MS), i + m = w.1.length → Fm h0 h → RC h σ → (∀ h', Fm h0 h' → RC h' (ldS σ (w.2.2 + i) (w.1.drop i)) → WP X mX3_restart 1 23 35 [some (.ref 13), some (.ref 6), some (.int (nI w.1.length))] [] h' Q) → WP X mX3_restart 1 23 2 [some (.ref 13), some (.ref 6), some (.int (nI i))] [] h Q := by
  have hl := pg.1.2
  intro m
  induction m with
  | zero =>
    intro i h σ hi f q k
    have hi2 : i = w.1.length := by omega
    subst hi2
    rw [List.drop_eq_nil_of_le (Nat.le_refl _)] at k
    have z2 : hI h 6 2 = nI w.1.length := (congrFun (f.2.2.2.2.1 6 (by decide) (Or.inl (by decide))) 2).trans pg.1.1
    refine w_iload_n dX3_restart_2 rfl rfl ?_
    refine w_aload_n dX3_restart_3 rfl rfl ?_
    refine w_gi q.1 dX3_restart_4 fX3_51 rfl rfl (by decide) ?_
    refine w_icmp_ge (tgt := 35) dX3_restart_7 (by decide) (fun c_7 => ?_) (fun c_7 => absurd c_7 (not_not_intro (by rw [z2]; exact Int32.le_refl _)))
    exact k _ f q
  | succ m ih =>
    intro i h σ hi f q k
    have hil : i < w.1.length := by omega
    have hv : w.1[i]? = some w.1[i] := List.getElem?_eq_getElem hil
    have z2 : hI h 6 2 = nI w.1.length := (congrFun (f.2.2.2.2.1 6 (by decide) (Or.inl (by decide))) 2).trans pg.1.1
    have z4 : hI h 6 4 = nI w.2.2 := (congrFun (f.2.2.2.2.1 6 (by decide) (Or.inl (by decide))) 4).trans pg.2.2.2.2.1
    have zw : hI h 7 i = w.1[i] := (congrFun (f.2.2.2.2.1 7 (by decide) (Or.inl (by decide))) i).trans (pg.2.1 i _ hv)
    have ho := pg.2.2.2.2.2.2
    refine w_iload_n dX3_restart_2 rfl rfl ?_
    refine w_aload_n dX3_restart_3 rfl rfl ?_
    refine w_gi q.1 dX3_restart_4 fX3_51 rfl rfl (by decide) ?_
    refine w_icmp_ge (tgt := 35) dX3_restart_7 (by decide) (fun c_7 => absurd c_7 (by rw [z2]; exact nI_ge (by omega) (by omega))) (fun c_7 => ?_)
    refine w_aload_n dX3_restart_10 rfl rfl ?_
    refine w_gs (b := 16) q.1 dX3_restart_11 fX3_21 (by decide) rfl rfl (by decide) ?_
    refine w_aload_n dX3_restart_14 rfl rfl ?_
    refine w_gi q.1 dX3_restart_15 fX3_56 rfl rfl (by decide) ?_
    refine w_iload_n dX3_restart_18 rfl rfl ?_
    refine w_iadd dX3_restart_19 ?_
    refine w_aload_n dX3_restart_20 rfl rfl ?_
    refine w_gs (b := 7) q.1 dX3_restart_21 fX3_59 (by decide) rfl rfl (by decide) ?_
    refine w_iload_n dX3_restart_24 rfl rfl ?_
    refine w_iaload dX3_restart_25 rfl (q.1.lt (by decide)) (vp_in_nI (show i < 4096 by omega) (by decide)) ?_
    refine w_v2 (d2 := 0) (L2 := 0) dX3_restart_26 vX3_62 rfl (q.1.lt (by decide)) rfl rfl (by decide) (Nat.le_of_ble_eq_true rfl) (by decide) (by decide) ?_
    refine T_keep2 f q (fun hz fz qz => ?_)
    rw [z4, nI_add, ix_n (by omega), nI_clamp (by omega), zw, (hw _ (List.getElem_mem hil)).c] at qz
    refine k_v rfl ?_
    refine w_iinc (v := (nI (i + 1))) dX3_restart_29 rfl (nI_1 i) (by decide) ?_
    refine w_goto (tgt := 2) dX3_restart_32 (by decide) ?_
    exact ih (i + 1) _ _ (by omega) fz qz (fun h9 f9 q9 => k h9 f9 (by rw [dr_s hv, ldS]; exact q9))

set_option maxRecDepth 20000 in
set_option maxHeartbeats 4000000 in
theorem T_rs6 {X : Nat × (Nat → Int32)} {h : PH} {Q : Option Value → PH → Prop} {σ : MS} {w : List Int32 × List Nat × Nat} (pg : PG 6 h w) (hw : ∀ v ∈ w.1, W16 v) (q : RC h σ) (k : ∀ h', Fm h h' → RC h' (loC σ w.2.2 w.1) → Q none h') : WP X mX3_restart 1 23 0 (en 3 [.ref 13, .ref 6]) [] h Q := by
  refine w_iconst dX3_restart_0 (v := 0) (by decide) ?_
  refine w_istore_n dX3_restart_1 rfl (by decide) ?_
  refine L_rs6 pg hw w.1.length 0 _ _ (by omega) Fm.rf q (fun ha fa qa => ?_)
  rw [Nat.add_zero, List.drop_zero] at qa
  have z4 : hI ha 6 4 = nI w.2.2 := (congrFun (fa.2.2.2.2.1 6 (by decide) (Or.inl (by decide))) 4).trans pg.2.2.2.2.1
  refine w_aload_n dX3_restart_35 rfl rfl ?_
  refine w_v0 (d2 := 0) (L2 := 0) dX3_restart_36 vX3_46 rfl (qa.1.lt (by decide)) (by decide) (Nat.le_of_ble_eq_true rfl) (by decide) (by decide) ?_
  refine T_clr fa qa (fun hb fb qb => ?_)
  have z4b : hI hb 6 4 = nI w.2.2 := (congrFun (fb.2.2.2.2.1 6 (by decide) (Or.inl (by decide))) 4).trans pg.2.2.2.2.1
  refine k_v rfl ?_
  refine w_aload_n dX3_restart_39 rfl rfl ?_
  refine w_gs (b := 14) qb.1 dX3_restart_40 fX3_9 (by decide) rfl rfl (by decide) ?_
  refine w_bipush dX3_restart_43 (v := 8) (by decide) ?_
  refine w_aload_n dX3_restart_45 rfl rfl ?_
  refine w_gi qb.1 dX3_restart_46 fX3_56 rfl rfl (by decide) ?_
  refine w_ldc dX3_restart_49 kX3_66 ?_
  refine w_iand dX3_restart_51 ?_
  refine r_put (k := 8) fb qb dX3_restart_52 (by decide) (vin (by decide)) (fun h1 f1 q1 => ?_)
  refine w_aload_n dX3_restart_53 rfl rfl ?_
  refine w_gs (b := 18) q1.1 dX3_restart_54 fX3_28 (by decide) rfl rfl (by decide) ?_
  refine w_v0 (d2 := 0) (L2 := 0) dX3_restart_57 vX3_67 rfl (q1.1.lt (by decide)) (by decide) (Nat.le_of_ble_eq_true rfl) (by decide) (by decide) ?_
  refine T_clear q1 (fun hc gc qc => ?_)
  have fc := f1.tr gc
  refine k_v rfl ?_
  refine w_aload_n dX3_restart_60 rfl rfl ?_
  refine w_iconst dX3_restart_61 (v := 0) (by decide) ?_
  refine x_put fc qc dX3_restart_62 fX3_39 (RC.state qc) rfl rfl (by decide) (fun h2 f2 q2 => ?_)
  refine w_vret dX3_restart_65 ?_
  rw [z4b] at q2
  exact k _ f2 q2

set_option maxRecDepth 20000 in
set_option maxHeartbeats 4000000 in
theorem T_cload {X : Nat × (Nat → Int32)} {h : PH} {Q : Option Value → PH → Prop} {κ : KE} {σ : MS} (S : St h) (ck : CK h κ) (hw : ∀ v ∈ κ.2.2.2.1, W16 v) (q : RC h σ) (k0 : κ.1 = 0 → Q (some (.int 0)) h) (k : ¬ κ.1 = 0 → ∀ h', Fm h h' → RC h' (loC σ κ.2.2.2.2.2 κ.2.2.2.1) → Q (some (.int 1)) h') : WP X mX10_load 2 45 0 (en 1 [.ref 0]) [] h Q := by
  obtain ⟨D, hD, r4, r5, i6, i7, i8, pg⟩ := ck
  rcases hD with rfl | rfl
  · refine w_aload_n dX10_load_0 rfl rfl ?_
    refine w_gs (b := 3) S dX10_load_1 fX10_23 (by decide) rfl rfl (by decide) ?_
    refine w_gi S dX10_load_4 fX10_98 rfl rfl (by decide) ?_
    refine w_if_ne (tgt := 12) dX10_load_7 (by decide) (fun c_7 => ?_) (fun c_7 => ?_)
    · rw [i6] at c_7
      refine w_aload_n dX10_load_12 rfl rfl ?_
      refine w_gs (b := 13) S dX10_load_13 fX10_30 (by decide) rfl rfl (by decide) ?_
      refine w_aload_n dX10_load_16 rfl rfl ?_
      refine w_gs (b := 3) S dX10_load_17 fX10_23 (by decide) rfl rfl (by decide) ?_
      refine w_getR (b := 9) dX10_load_20 fX10_65 rfl rfl (S.lt (by decide)) r5 ?_
      refine w_v1 (d2 := 1) (L2 := 23) dX10_load_23 vX10_102 rfl (S.lt (by decide)) rfl (by decide) (Nat.le_of_ble_eq_true rfl) (by decide) (by decide) ?_
      refine T_rs9 pg hw q (fun hz fz qz => ?_)
      refine k_v rfl ?_
      refine w_iconst dX10_load_26 (v := 1) (by decide) ?_
      refine w_iret dX10_load_27 (fun _ e => by cases e; decide) ?_
      exact k c_7 hz fz qz
    · rw [i6] at c_7
      refine w_iconst dX10_load_10 (v := 0) (by decide) ?_
      refine w_iret dX10_load_11 (fun _ e => by cases e; decide) ?_
      exact k0 c_7
  · refine w_aload_n dX10_load_0 rfl rfl ?_
    refine w_gs (b := 3) S dX10_load_1 fX10_23 (by decide) rfl rfl (by decide) ?_
    refine w_gi S dX10_load_4 fX10_98 rfl rfl (by decide) ?_
    refine w_if_ne (tgt := 12) dX10_load_7 (by decide) (fun c_7 => ?_) (fun c_7 => ?_)
    · rw [i6] at c_7
      refine w_aload_n dX10_load_12 rfl rfl ?_
      refine w_gs (b := 13) S dX10_load_13 fX10_30 (by decide) rfl rfl (by decide) ?_
      refine w_aload_n dX10_load_16 rfl rfl ?_
      refine w_gs (b := 3) S dX10_load_17 fX10_23 (by decide) rfl rfl (by decide) ?_
      refine w_getR (b := 6) dX10_load_20 fX10_65 rfl rfl (S.lt (by decide)) r5 ?_
      refine w_v1 (d2 := 1) (L2 := 23) dX10_load_23 vX10_102 rfl (S.lt (by decide)) rfl (by decide) (Nat.le_of_ble_eq_true rfl) (by decide) (by decide) ?_
      refine T_rs6 pg hw q (fun hz fz qz => ?_)
      refine k_v rfl ?_
      refine w_iconst dX10_load_26 (v := 1) (by decide) ?_
      refine w_iret dX10_load_27 (fun _ e => by cases e; decide) ?_
      exact k c_7 hz fz qz
    · rw [i6] at c_7
      refine w_iconst dX10_load_10 (v := 0) (by decide) ?_
      refine w_iret dX10_load_11 (fun _ e => by cases e; decide) ?_
      exact k0 c_7

