/-! THE CLASS's ASSEMBLER: blocks, texts, operands -/
def b01 (b : Bool) : Int32 := if b = true then 1 else 0
/-- what the class keeps of where we are -/
def AR (D : Nat) (T : List Int32) (sec : Bool) (a : AS) (α : AK) : Prop := α.1 3 7 = 0 ∧ α.1 3 10 = b01 a.2.1 ∧ (α.1 3 11 = b01 a.2.2.1 ∧ α.1 3 8 = -1) ∧ (α.1 D 2 = nI a.2.2.2.2.1.length ∧ a.2.2.2.2.1.length ≤ 4096) ∧ (α.1 D 4 = nI a.2.2.2.1 ∧ a.2.2.2.1 ≤ 65535 ∧ a.2.2.2.1 + a.2.2.2.2.1.length ≤ 65536) ∧ (∀ (i : Nat) (v : Int32), a.2.2.2.2.1[i]? = some v → α.1 (D + 1) i = v) ∧ LF D T (laS sec a.2.2.2.2.2) α ∧ a.1 ≤ T.length
def adL (D : Nat) : AK → Nat → List Int32 → AK
  | α, _, [] => α
  | α, n, w :: l => adL D (adS α D n w) (if n < 4096 then n + 1 else n) l
theorem adS_3 {α : AK} {D n c k : Nat} {w : Int32} (h1 : c ≠ D) (h2 : c ≠ D + 1) : (adS α D n w).1 c k = α.1 c k := by
  unfold adS
  split
  · rw [aP_c h1, aP_c h2]
  · rfl
theorem adS_2 (α : AK) (D n : Nat) (w : Int32) : (adS α D n w).2 = α.2 := by unfold adS; split <;> rfl
theorem adS_n {α : AK} {D n : Nat} {w : Int32} (h : α.1 D 2 = nI n) : (adS α D n w).1 D 2 = nI (if n < 4096 then n + 1 else n) := by
  unfold adS
  split
  · exact aP_s
  · exact h
theorem adL_3 {D c k : Nat} (h1 : c ≠ D) (h2 : c ≠ D + 1) : ∀ (l : List Int32) (α : AK) (n : Nat), (adL D α n l).1 c k = α.1 c k
  | [], _, _ => rfl
  | w :: l, α, n => by rw [adL, adL_3 h1 h2 l, adS_3 h1 h2]
theorem adL_2 {D : Nat} : ∀ (l : List Int32) (α : AK) (n : Nat), (adL D α n l).2 = α.2
  | [], _, _ => rfl
  | w :: l, α, n => by rw [adL, adL_2 l, adS_2]
theorem adL_app {D : Nat} : ∀ (l m : List Int32) (α : AK) (n : Nat), n + l.length ≤ 4096 → adL D α n (l ++ m) = adL D (adL D α n l) (n + l.length) m
  | [], _, _, _, _ => rfl
  | w :: l, m, α, n, h => by
    rw [List.length_cons] at h
    rw [List.cons_append, adL, adL, if_pos (by omega), adL_app l m _ _ (by omega), List.length_cons, show n + 1 + l.length = n + (l.length + 1) by omega]
theorem AR.add {D : Nat} {T : List Int32} {sec : Bool} {p o : Nat} {b v : Bool} {made : List Int32} {l9 : List (Nat × Nat)} {α : AK} {w : Int32} (hD : D = 6 ∨ D = 9) (h : AR D T sec (p, b, v, o, made, l9) α) (h1 : made.length < 4096) (h2 : o + made.length + 1 ≤ 65536) : AR D T sec (p, b, v, o, made ++ [w &&& 65535], l9) (adS α D made.length w) := by
  obtain ⟨a1, a2, a3, a4, a5, a6, a7, a8⟩ := h
  have dn := D_n hD
  have l1 : (made ++ [w &&& 65535]).length = made.length + 1 := by rw [List.length_append]; rfl
  have n3 : (3 : Nat) ≠ D := Ne.symm dn.2.2.2.2.2.2.2.2.2.1
  have n31 : (3 : Nat) ≠ D + 1 := by have := dn.2.2.2.2.2.2.2.2.2.2.2.2.2; omega
  refine ⟨(adS_3 n3 n31).trans a1, (adS_3 n3 n31).trans a2, ⟨(adS_3 n3 n31).trans a3.1, (adS_3 n3 n31).trans a3.2⟩, ⟨?_, ?_⟩, ⟨?_, a5.2.1, ?_⟩, ?_, ?_, a8⟩
  · show _ = nI (made ++ [w &&& 65535]).length
    rw [l1, adS_n a4.1, if_pos h1]
  · show (made ++ [w &&& 65535]).length ≤ 4096
    omega
  · unfold adS; rw [if_pos h1, aP_k (by decide), aP_c (by omega)]; exact a5.1
  · show o + (made ++ [w &&& 65535]).length ≤ 65536
    omega
  · intro i v hv
    unfold adS
    rw [if_pos h1, aP_c (by omega)]
    change (made ++ [w &&& 65535])[i]? = some v at hv
    by_cases c : i = made.length
    · subst c; rw [aP_s]; rw [List.getElem?_append_right (Nat.le_refl _), Nat.sub_self] at hv; exact Option.some.inj hv
    · have hl : i < made.length := by
        have := (List.getElem?_eq_some_iff.mp hv).1
        omega
      rw [aP_k c]; rw [List.getElem?_append_left hl] at hv; exact a6 i v hv
  · obtain ⟨b1, b2, b3, b4⟩ := a7
    refine ⟨(adS_3 n3 n31).trans b1, ?_, b3, fun i hi => ?_⟩
    · unfold adS; rw [if_pos h1, aP_k (by decide), aP_c (by omega)]; exact b2
    · obtain ⟨c1, c2, c3, c4⟩ := b4 i hi
      refine ⟨?_, ?_, ?_, c4⟩
      · rw [adS_2]; exact c1
      · rw [adS_2]; exact c2
      · rw [adS_3 (by omega) (by omega)]; exact c3
theorem AR.adl {D : Nat} {T : List Int32} {sec : Bool} {p o : Nat} {b v : Bool} {l9 : List (Nat × Nat)} (hD : D = 6 ∨ D = 9) : ∀ (l made : List Int32) (α : AK), AR D T sec (p, b, v, o, made, l9) α → made.length + l.length ≤ 4096 → o + made.length + l.length ≤ 65536 → AR D T sec (p, b, v, o, made ++ l.map (fun b => b &&& 65535), l9) (adL D α made.length l)
  | [], made, α, h, _, _ => by rw [List.map_nil, List.append_nil]; exact h
  | w :: l, made, α, h, h1, h2 => by
    rw [List.length_cons] at h1 h2
    have k := AR.adl hD l (made ++ [w &&& 65535]) (adS α D made.length w) (h.add hD (by omega) (by omega)) (by rw [List.length_append]; simp only [List.length_cons, List.length_nil]; omega) (by rw [List.length_append]; simp only [List.length_cons, List.length_nil]; omega)
    rw [List.length_append, show [w &&& 65535].length = 1 from rfl] at k
    rw [adL, if_pos (by omega), List.map_cons]
    rw [List.append_assoc] at k
    exact k
/-- the good end of what takes an operand -/
def GO (D : Nat) (h0 : PH) (T : List Int32) (α : AK) (Q : Option Value → PH → Prop) (sec : Bool) (b : AS) : Prop := ∀ h' α', Fa D h0 h' → RA D h' T α' → AR D T sec b α' → α'.2.2 = α.2.2 → α'.1 3 6 = α.1 3 6 → Q none h'
theorem AR.w {D : Nat} {T : List Int32} {sec : Bool} {a : AS} {α : AK} {w : Int32} (hD : D = 6 ∨ D = 9) (h : AR D T sec a α) : AR D T sec a (aP α 3 12 w) := by
  obtain ⟨a1, a2, a3, a4, a5, a6, a7, a8⟩ := h
  have dn := D_n hD
  have n3 : D ≠ 3 := dn.2.2.2.2.2.2.2.2.2.1
  have g := dn.2.2.2.2.2.2.2.2.2.2.2.2.2
  refine ⟨(aP_k (by decide)).trans a1, (aP_k (by decide)).trans a2, ⟨(aP_k (by decide)).trans a3.1, (aP_k (by decide)).trans a3.2⟩, ⟨(aP_c n3).trans a4.1, a4.2⟩, ⟨(aP_c n3).trans a5.1, a5.2⟩, fun i v hv => (aP_c (by omega)).trans (a6 i v hv), ?_, a8⟩
  obtain ⟨b1, b2, b3, b4⟩ := a7
  exact ⟨(aP_k (by decide)).trans b1, (aP_c n3).trans b2, b3, fun i hi => ⟨(b4 i hi).1, (b4 i hi).2.1, (aP_c (by omega)).trans (b4 i hi).2.2.1, (b4 i hi).2.2.2⟩⟩
theorem tx_pre (T : List Int32) : ∀ (m i : Nat) (l : List Int32) (r : Nat × List Int32), txS T m i l = some r → ∃ t, r.2 = l ++ t
  | 0, _, _, _, h => by cases h
  | m + 1, i, l, r, h => by
    rw [txS] at h
    split at h
    · cases h; exact ⟨[], (List.append_nil _).symm⟩
    split at h
    · split at h
      · cases h
      · obtain ⟨t, ht⟩ := tx_pre T m _ _ r h; exact ⟨_, by rw [ht, List.append_assoc]⟩
    split at h
    · cases h
    split at h
    · cases h
    obtain ⟨t, ht⟩ := tx_pre T m _ _ r h; exact ⟨_, by rw [ht, List.append_assoc]⟩
theorem tx_step {T : List Int32} {m i : Nat} {l : List Int32} {r : Nat × List Int32} (h : txS T m i l = some r) (hl : l.length < r.2.length) : ∃ m', (bT T i = 92 ∧ txS T m' (i + 2) (l ++ [mnI (bT T (i + 1))]) = some r ∧ r.2[l.length]? = some (mnI (bT T (i + 1)))) ∨ (¬ bT T i = 92 ∧ txS T m' (i + 1) (l ++ [bT T i]) = some r ∧ r.2[l.length]? = some (bT T i)) := by
  have g : ∀ {m' j : Nat} {x : Int32}, txS T m' j (l ++ [x]) = some r → r.2[l.length]? = some x := by
    intro m' j x hx
    obtain ⟨t, ht⟩ := tx_pre T m' j _ r hx
    rw [ht, List.append_assoc, List.getElem?_append_right (Nat.le_refl _), Nat.sub_self]; rfl
  cases m with
  | zero => cases h
  | succ m =>
    rw [txS] at h
    split at h
    · cases h; exact absurd hl (Nat.lt_irrefl _)
    split at h
    · rename_i c
      split at h
      · cases h
      · exact ⟨m, Or.inl ⟨c, h, g h⟩⟩
    rename_i c
    split at h
    · cases h
    split at h
    · cases h
    exact ⟨m, Or.inr ⟨c, h, g h⟩⟩
theorem tx_lt {T : List Int32} {m i : Nat} {l : List Int32} {r : Nat × List Int32} (h : txS T m i l = some r) : i < T.length := by
  rcases Nat.lt_or_ge i T.length with a | a
  · exact a
  · rw [tx_out a] at h; cases h
theorem dr_s {l : List Int32} {k : Nat} {x : Int32} (h : l[k]? = some x) : l.drop k = x :: l.drop (k + 1) := by
  have hk := (List.getElem?_eq_some_iff.mp h).1
  rw [List.drop_eq_getElem_cons hk]
  rw [List.getElem?_eq_getElem hk] at h
  rw [Option.some.inj h]
set_option maxRecDepth 20000 in
set_option maxHeartbeats 4000000 in
theorem L_bk {X : Nat × (Nat → Int32)} {h0 : PH} {Q : Option Value → PH → Prop} {T : List Int32} {D : Nat} {x1 : Int32} {u : Nat} (hu : u ≤ 4096) : ∀ (m i : Nat) (h : PH) (α : AK) (n : Nat), i + m = u → α.1 D 2 = nI n → n ≤ 4096 → α.1 3 7 = 0 → α.2.2.1 4 = nI u → Fa D h0 h → RA D h T α → (∀ h', Fa D h0 h' → RA D h' T (adL D α n (List.replicate m 0)) → Q none h') → WP X mX0_takeBlock 2 45 41 [some (.ref 3), some (.int x1), some (.int (nI i))] [] h Q := by
  intro m
  induction m with
  | zero =>
    intro i h α n hi e2 hn e7 e4 f q k
    refine w_aload_n dX0_takeBlock_41 rfl rfl ?_
    refine a_g3 (k := 7) rfl q dX0_takeBlock_42 fX0_45 ?_
    refine w_if_ne (tgt := 73) dX0_takeBlock_45 (by decide) (fun c_45 => absurd c_45 (not_not_intro e7)) (fun c_45 => ?_)
    refine w_iload_n dX0_takeBlock_48 rfl rfl ?_
    refine w_aload_n dX0_takeBlock_49 rfl rfl ?_
    refine w_gs (b := 12) q.1 dX0_takeBlock_50 fX0_41 (by decide) rfl rfl (by decide) ?_
    refine a_gk (k := 4) (by decide) q dX0_takeBlock_53 fX0_198 ?_
    refine w_icmp_ge (tgt := 73) dX0_takeBlock_56 (by decide) (fun c_56 => ?_) (fun c_56 => absurd c_56 (not_not_intro (by rw [e4]; exact nI_le (by omega) (by omega))))
    refine w_vret dX0_takeBlock_73 ?_
    exact k _ f q
  | succ m ih =>
    intro i h α n hi e2 hn e7 e4 f q k
    have dn := D_n q.2.2.1
    refine w_aload_n dX0_takeBlock_41 rfl rfl ?_
    refine a_g3 (k := 7) rfl q dX0_takeBlock_42 fX0_45 ?_
    refine w_if_ne (tgt := 73) dX0_takeBlock_45 (by decide) (fun c_45 => absurd c_45 (not_not_intro e7)) (fun c_45 => ?_)
    refine w_iload_n dX0_takeBlock_48 rfl rfl ?_
    refine w_aload_n dX0_takeBlock_49 rfl rfl ?_
    refine w_gs (b := 12) q.1 dX0_takeBlock_50 fX0_41 (by decide) rfl rfl (by decide) ?_
    refine a_gk (k := 4) (by decide) q dX0_takeBlock_53 fX0_198 ?_
    refine w_icmp_ge (tgt := 73) dX0_takeBlock_56 (by decide) (fun c_56 => absurd c_56 (by rw [e4]; exact nI_ge (by omega) (by omega))) (fun c_56 => ?_)
    refine w_aload_n dX0_takeBlock_59 rfl rfl ?_
    refine a_gD q dX0_takeBlock_60 fX0_21 ?_
    refine w_iconst dX0_takeBlock_63 (v := 0) (by decide) ?_
    refine w_v1 (d2 := 0) (L2 := 0) dX0_takeBlock_64 vX0_169 (D_n q.2.2.1).1 (q.1.lt (D_n q.2.2.1).2.1) rfl (by decide) (Nat.le_of_ble_eq_true rfl) (by decide) (by decide) ?_
    refine T_prad (w := 0) e2 hn f q (fun hz fz qz => ?_)
    refine k_v rfl ?_
    refine w_iinc (v := (nI (i + 1))) dX0_takeBlock_67 rfl (nI_1 i) (by decide) ?_
    refine w_goto (tgt := 41) dX0_takeBlock_70 (by decide) ?_
    exact ih (i + 1) hz _ _ (by omega) (adS_n e2) (by split <;> omega) ((adS_3 (Ne.symm dn.2.2.2.2.2.2.2.2.2.1) (by omega)).trans e7) (by rw [adS_2]; exact e4) fz qz k

theorem fa_7 {α : AK} {e p : Int32} (e7 : α.1 3 7 = 0) : (faS α e p).1 3 7 = e := by rw [show faS α e p = aP (aP α 3 7 e) 3 8 p from if_pos e7]; exact (aP_k (by decide)).trans aP_s
set_option maxRecDepth 20000 in
set_option maxHeartbeats 4000000 in
/-- takeBlock() -/
theorem T_tblk {X : Nat × (Nat → Int32)} {h0 h : PH} {Q : Option Value → PH → Prop} {T : List Int32} {α : AK} {D : Nat} {s : Nat} (t : TK T s α.2.2) {sec : Bool} {a : AS} (ar : AR D T sec a α) {pl : Nat} (f : Fa D h0 h) (q : RA D h T α) (k1 : ¬ uC T s = 2 → FE D h0 T α Q 1 s) (k2 : uC T s = 2 → (uV T s < 1 ∨ 4096 < uV T s) → FE D h0 T α Q 2 s) (k4 : uC T s = 2 → ¬ uV T s < 1 → ¬ 4096 < uV T s → roS a.2.2.2.1 a.2.2.2.2.1.length (uV T s).toNatClampNeg = false → FE D h0 T α Q 4 pl) (kO : uC T s = 2 → ¬ uV T s < 1 → ¬ 4096 < uV T s → roS a.2.2.2.1 a.2.2.2.2.1.length (uV T s).toNatClampNeg = true → GO D h0 T α Q sec (a.1, a.2.1, a.2.2.1, a.2.2.2.1, a.2.2.2.2.1 ++ List.replicate (uV T s).toNatClampNeg 0, a.2.2.2.2.2)) : WP X mX0_takeBlock 2 45 0 (en 3 [.ref 3, .int (nI pl)]) [] h Q := by
  refine w_aload_n dX0_takeBlock_0 rfl rfl ?_
  refine w_iconst dX0_takeBlock_1 (v := 1) (by decide) ?_
  refine w_sipush dX0_takeBlock_2 (v := 4096) (by decide) ?_
  refine w_iconst dX0_takeBlock_5 (v := 0) (by decide) ?_
  refine w_v3 (d2 := 1) (L2 := 22) dX0_takeBlock_6 vX0_181 rfl (q.1.lt (by decide)) rfl rfl rfl (by decide) (Nat.le_of_ble_eq_true rfl) (by decide) (by decide) ?_
  have e7 := ar.1
  have dn := D_n q.2.2.1
  have n3 : (3 : Nat) ≠ D := Ne.symm dn.2.2.2.2.2.2.2.2.2.1
  have n31 : (3 : Nat) ≠ D + 1 := by omega
  refine T_tnum t e7 f q (fun e e9 hz αz fz qz y1 y2 y3 y4 => ?_) (fun w e9 hz fz qz => ?_)
  · refine k_v rfl ?_
    refine w_aload_n dX0_takeBlock_9 rfl rfl ?_
    refine a_g3 (k := 7) rfl qz dX0_takeBlock_10 fX0_45 ?_
    refine w_if_ne (tgt := 39) dX0_takeBlock_13 (by decide) (fun c_13 => ?_) (fun c_13 => absurd c_13 (by rw [y1]; exact y2))
    refine w_iconst dX0_takeBlock_39 (v := 0) (by decide) ?_
    refine w_istore_n dX0_takeBlock_40 rfl (by decide) ?_
    refine w_aload_n dX0_takeBlock_41 rfl rfl ?_
    refine a_g3 (k := 7) rfl qz dX0_takeBlock_42 fX0_45 ?_
    refine w_if_ne (tgt := 73) dX0_takeBlock_45 (by decide) (fun c_45 => ?_) (fun c_45 => absurd c_45 (by rw [y1]; exact y2))
    refine w_vret dX0_takeBlock_73 ?_
    unfold nuS at e9
    by_cases c2 : uC T s = 2
    · rw [if_pos c2] at e9
      by_cases c5 : uV T s < 1
      · rw [if_pos c5] at e9; cases e9; exact k2 c2 (Or.inl c5) _ _ fz qz y1 y2 y3 y4
      · rw [if_neg c5] at e9
        by_cases c6 : 4096 < uV T s
        · rw [if_pos c6] at e9; cases e9; exact k2 c2 (Or.inr c6) _ _ fz qz y1 y2 y3 y4
        · rw [if_neg c6] at e9; cases e9
    · rw [if_neg c2] at e9; cases e9; exact k1 c2 _ _ fz qz y1 y2 y3 y4
  · refine k_v rfl ?_
    refine w_aload_n dX0_takeBlock_9 rfl rfl ?_
    refine a_g3 (k := 7) rfl qz dX0_takeBlock_10 fX0_45 ?_
    refine w_if_ne (tgt := 39) dX0_takeBlock_13 (by decide) (fun c_13 => absurd c_13 (not_not_intro ((aP_k (by decide)).trans e7))) (fun c_13 => ?_)
    have c2 : uC T s = 2 := by
      unfold nuS at e9
      split at e9
      · assumption
      · cases e9
    have c3 : ¬ uV T s < 1 ∧ ¬ 4096 < uV T s := by
      unfold nuS at e9
      rw [if_pos c2] at e9
      split at e9
      · cases e9
      split at e9
      · cases e9
      exact ⟨by assumption, by assumption⟩
    obtain ⟨u, hu, eu⟩ := nI_of2 (M := 4096) (n := 4096) rfl (show ¬ uV T s < 0 from fun x => c3.1 (Int32.lt_trans x (by decide))) (Int32.not_lt.mp c3.2)
    have ku : (uV T s).toNatClampNeg = u := by rw [eu]; exact nI_clamp (by omega)
    have ev : (aP α 3 12 w).2.2.1 4 = nI u := (t.2.2.2.1 (Or.inl c2)).trans eu
    rw [ku] at k4 kO
    have ar2 := ar.w (w := w) q.2.2.1
    refine w_aload_n dX0_takeBlock_16 rfl rfl ?_
    refine a_gD qz dX0_takeBlock_17 fX0_21 ?_
    refine w_aload_n dX0_takeBlock_20 rfl rfl ?_
    refine w_gs (b := 12) qz.1 dX0_takeBlock_21 fX0_41 (by decide) rfl rfl (by decide) ?_
    refine a_gk (k := 4) (by decide) qz dX0_takeBlock_24 fX0_198 ?_
    refine w_v1 (d2 := 0) (L2 := 0) dX0_takeBlock_27 vX0_143 (D_n qz.2.2.1).1 (qz.1.lt (D_n qz.2.2.1).2.1) rfl (by decide) (Nat.le_of_ble_eq_true rfl) (by decide) (by decide) ?_
    rw [ev]
    refine T_room ar2.2.2.2.1.1 ar2.2.2.2.2.1.1 ar2.2.2.2.2.1.2.1 ar2.2.2.2.1.2 (by omega) qz ?_
    cases er : roS a.2.2.2.1 a.2.2.2.2.1.length u
    · refine k_i rfl ?_
      refine w_if_ne (tgt := 39) dX0_takeBlock_30 (by decide) (fun c_30 => absurd c_30 (by decide)) (fun c_30 => ?_)
      refine w_aload_n dX0_takeBlock_33 rfl rfl ?_
      refine w_iconst dX0_takeBlock_34 (v := 4) (by decide) ?_
      refine w_iload_n dX0_takeBlock_35 rfl rfl ?_
      refine w_v2 (d2 := 0) (L2 := 0) dX0_takeBlock_36 vX0_97 rfl (qz.1.lt (by decide)) rfl rfl (by decide) (Nat.le_of_ble_eq_true rfl) (by decide) (by decide) ?_
      refine T_fail fz qz (fun hy fy qy => ?_)
      refine k_v rfl ?_
      refine w_iconst dX0_takeBlock_39 (v := 0) (by decide) ?_
      refine w_istore_n dX0_takeBlock_40 rfl (by decide) ?_
      refine w_aload_n dX0_takeBlock_41 rfl rfl ?_
      refine a_g3 (k := 7) rfl qy dX0_takeBlock_42 fX0_45 ?_
      refine w_if_ne (tgt := 73) dX0_takeBlock_45 (by decide) (fun c_45 => ?_) (fun c_45 => absurd c_45 (by rw [fa_7 ar2.1]; decide))
      refine w_vret dX0_takeBlock_73 ?_
      exact fe1 (FE.p (αz := aP α 3 12 w) (aP_k (by decide)) (k4 c2 c3.1 c3.2 er)) ar2.1 (by decide) _ fy qy
    · refine k_i rfl ?_
      refine w_if_ne (tgt := 39) dX0_takeBlock_30 (by decide) (fun c_30 => ?_) (fun c_30 => absurd c_30 (by decide))
      refine w_iconst dX0_takeBlock_39 (v := 0) (by decide) ?_
      refine w_istore_n dX0_takeBlock_40 rfl (by decide) ?_
      exact L_bk hu u 0 _ _ _ (by omega) ar2.2.2.2.1.1 ar2.2.2.2.1.2 ar2.1 ev fz qz (fun hx fx qx => by
        have r9 := er
        unfold roS at r9
        rw [Bool.and_eq_true, decide_eq_true_eq, decide_eq_true_eq] at r9
        have ax := AR.adl q.2.2.1 (List.replicate u 0) _ _ ar2 (by rw [List.length_replicate]; exact r9.1) (by rw [List.length_replicate]; exact r9.2)
        rw [List.map_replicate, show (0 : Int32) &&& 65535 = 0 from by decide] at ax
        exact kO c2 c3.1 c3.2 er _ _ fx qx ax (by rw [adL_2]; rfl) ((adL_3 n3 n31 _ _ _).trans (aP_k (by decide))))

set_option maxRecDepth 20000 in
set_option maxHeartbeats 4000000 in
theorem L_tt {X : Nat × (Nat → Int32)} {h0 : PH} {Q : Option Value → PH → Prop} {T : List Int32} {D : Nat} {x1 : Int32} {r : Nat × List Int32} (hT : T.length ≤ 4000) (hr : r.2.length ≤ 4000) : ∀ (g m i : Nat) (l : List Int32) (h : PH) (α : AK) (n : Nat) (x : Option Value), l.length + g = r.2.length → (0 < g → txS T m i l = some r) → α.1 D 2 = nI n → n ≤ 4096 → α.2.2.1 4 = nI r.2.length → Fa D h0 h → RA D h T α → (∀ h', Fa D h0 h' → RA D h' T (adL D α n (r.2.drop l.length ++ [0])) → Q none h') → WP X mX0_takeText 1 22 61 [some (.ref 3), some (.int x1), some (.int (nI i)), some (.int (nI l.length)), x] [] h Q := by
  intro g
  induction g with
  | zero =>
    intro m i l h α n x hg hx e2 hn e4 f q k
    rw [List.drop_eq_nil_of_le (by omega), List.nil_append] at k
    refine w_iload_n dX0_takeText_61 rfl rfl ?_
    refine w_aload_n dX0_takeText_62 rfl rfl ?_
    refine w_gs (b := 12) q.1 dX0_takeText_63 fX0_41 (by decide) rfl rfl (by decide) ?_
    refine a_gk (k := 4) (by decide) q dX0_takeText_66 fX0_198 ?_
    refine w_icmp_ge (tgt := 123) dX0_takeText_69 (by decide) (fun c_69 => ?_) (fun c_69 => absurd c_69 (not_not_intro (by rw [e4]; exact nI_le (by omega) (by omega))))
    refine w_aload_n dX0_takeText_123 rfl rfl ?_
    refine a_gD q dX0_takeText_124 fX0_21 ?_
    refine w_iconst dX0_takeText_127 (v := 0) (by decide) ?_
    refine w_v1 (d2 := 0) (L2 := 0) dX0_takeText_128 vX0_169 (D_n q.2.2.1).1 (q.1.lt (D_n q.2.2.1).2.1) rfl (by decide) (Nat.le_of_ble_eq_true rfl) (by decide) (by decide) ?_
    refine T_prad (w := 0) e2 hn f q (fun hz fz qz => ?_)
    refine k_v rfl ?_
    refine w_vret dX0_takeText_131 ?_
    exact k _ fz qz
  | succ g ih =>
    intro m i l h α n x hg hx e2 hn e4 f q k
    have hx := hx (by omega)
    have hi := tx_lt hx
    obtain ⟨m', hc⟩ := tx_step hx (by omega)
    have go : ∀ (j : Nat) (y : Int32) (h9 : PH) (α9 : AK) (x9 : Option Value), r.2[l.length]? = some y → txS T m' j (l ++ [y]) = some r → α9 = adS α D n y → Fa D h0 h9 → RA D h9 T α9 → WP X mX0_takeText 1 22 61 [some (.ref 3), some (.int x1), some (.int (nI j)), some (.int (nI (l.length + 1))), x9] [] h9 Q := by
      intro j y h9 α9 x9 ey et e9 f9 q9
      subst e9
      have hl1 : (l ++ [y]).length = l.length + 1 := by rw [List.length_append]; rfl
      have := ih m' j (l ++ [y]) h9 _ _ x9 (by omega) (fun _ => et) (adS_n e2) (by split <;> omega) (by rw [adS_2]; exact e4) f9 q9 (fun h8 f8 q8 => k h8 f8 (by rw [dr_s ey, List.cons_append, adL, ← hl1]; exact q8))
      rw [hl1] at this
      exact this
    refine w_iload_n dX0_takeText_61 rfl rfl ?_
    refine w_aload_n dX0_takeText_62 rfl rfl ?_
    refine w_gs (b := 12) q.1 dX0_takeText_63 fX0_41 (by decide) rfl rfl (by decide) ?_
    refine a_gk (k := 4) (by decide) q dX0_takeText_66 fX0_198 ?_
    refine w_icmp_ge (tgt := 123) dX0_takeText_69 (by decide) (fun c_69 => absurd c_69 (by rw [e4]; exact nI_ge (by omega) (by omega))) (fun c_69 => ?_)
    refine w_aload_n dX0_takeText_72 rfl rfl ?_
    refine w_gs (b := 1) q.1 dX0_takeText_73 fX0_32 (by decide) rfl rfl (by decide) ?_
    refine w_iload_n dX0_takeText_76 rfl rfl ?_
    refine w_v1 (d2 := 0) (L2 := 0) dX0_takeText_77 vX0_204 rfl (q.1.lt (by decide)) rfl (by decide) (Nat.le_of_ble_eq_true rfl) (by decide) (by decide) ?_
    refine T_byte1 q.1 q.2.1.2.1 ?_
    rw [bA_T (by omega)]
    refine k_i rfl ?_
    refine w_istore dX0_takeText_80 (by decide) ?_
    refine w_iload dX0_takeText_82 rfl ?_
    refine w_bipush dX0_takeText_84 (v := 92) (by decide) ?_
    refine w_icmp_ne (tgt := 105) dX0_takeText_86 (by decide) (fun c_86 => ?_) (fun c_86 => ?_)
    · refine w_aload_n dX0_takeText_105 rfl rfl ?_
      refine a_gD q dX0_takeText_106 fX0_21 ?_
      refine w_iload dX0_takeText_109 rfl ?_
      refine w_v1 (d2 := 0) (L2 := 0) dX0_takeText_111 vX0_169 (D_n q.2.2.1).1 (q.1.lt (D_n q.2.2.1).2.1) rfl (by decide) (Nat.le_of_ble_eq_true rfl) (by decide) (by decide) ?_
      refine T_prad e2 hn f q (fun hz fz qz => ?_)
      refine k_v rfl ?_
      refine w_iinc (v := (nI (i + 1))) dX0_takeText_114 rfl (nI_1 i) (by decide) ?_
      refine w_iinc (v := (nI (l.length + 1))) dX0_takeText_117 rfl (nI_1 _) (by decide) ?_
      refine w_goto (tgt := 61) dX0_takeText_120 (by decide) ?_
      rcases hc with ⟨c1, c2, c3⟩ | ⟨c1, c2, c3⟩
      · exact absurd c1 c_86
      · exact go (i + 1) _ hz _ _ c3 c2 rfl fz qz
    · refine w_iinc (v := (nI (i + 1))) dX0_takeText_89 rfl (nI_1 i) (by decide) ?_
      refine w_aload_n dX0_takeText_92 rfl rfl ?_
      refine w_gs (b := 1) q.1 dX0_takeText_93 fX0_32 (by decide) rfl rfl (by decide) ?_
      refine w_iload_n dX0_takeText_96 rfl rfl ?_
      refine w_v1 (d2 := 0) (L2 := 0) dX0_takeText_97 vX0_204 rfl (q.1.lt (by decide)) rfl (by decide) (Nat.le_of_ble_eq_true rfl) (by decide) (by decide) ?_
      refine T_byte1 q.1 q.2.1.2.1 ?_
      rw [bA_T (by omega)]
      refine k_i rfl ?_
      refine w_s1 (d2 := 0) (L2 := 0) dX0_takeText_100 vX0_208 rfl (by decide) (Nat.le_of_ble_eq_true rfl) (by decide) (by decide) ?_
      refine T_mnI ?_
      refine k_i rfl ?_
      refine w_istore dX0_takeText_103 (by decide) ?_
      refine w_aload_n dX0_takeText_105 rfl rfl ?_
      refine a_gD q dX0_takeText_106 fX0_21 ?_
      refine w_iload dX0_takeText_109 rfl ?_
      refine w_v1 (d2 := 0) (L2 := 0) dX0_takeText_111 vX0_169 (D_n q.2.2.1).1 (q.1.lt (D_n q.2.2.1).2.1) rfl (by decide) (Nat.le_of_ble_eq_true rfl) (by decide) (by decide) ?_
      refine T_prad e2 hn f q (fun hz fz qz => ?_)
      refine k_v rfl ?_
      refine w_iinc (v := (nI (i + 2))) dX0_takeText_114 rfl (nI_1 _) (by decide) ?_
      refine w_iinc (v := (nI (l.length + 1))) dX0_takeText_117 rfl (nI_1 _) (by decide) ?_
      refine w_goto (tgt := 61) dX0_takeText_120 (by decide) ?_
      rcases hc with ⟨c1, c2, c3⟩ | ⟨c1, c2, c3⟩
      · exact go (i + 2) _ hz _ _ c3 c2 rfl fz qz
      · exact absurd c_86 c1

theorem uC_5i {T : List Int32} {s : Nat} (h : uC T s = 5) : ∃ r, txS T (T.length - s) (s + 1) [] = some r ∧ uX T s = r.2 := by
  unfold uC at h
  split at h
  · omega
  split at h
  · omega
  split at h
  · split at h
    · rename_i g
      cases e : txS T (T.length - s) (s + 1) [] with
      | none => rw [e] at g; cases g
      | some r => exact ⟨r, rfl, by unfold uX; rw [e]⟩
    · omega
  split at h
  · omega
  · exact absurd h (by unfold wk; repeat (first | split | decide))
theorem tx_ln (T : List Int32) : ∀ (m i : Nat) (l : List Int32) (r : Nat × List Int32), txS T m i l = some r → l.length < i → r.2.length < r.1 ∧ r.1 ≤ T.length
  | 0, _, _, _, h, _ => by cases h
  | m + 1, i, l, r, h, hl => by
    have hi := tx_lt h
    rw [txS] at h
    split at h
    · cases h; exact ⟨show l.length < i + 1 by omega, hi⟩
    split at h
    · split at h
      · cases h
      · exact tx_ln T m _ _ r h (by rw [List.length_append]; simp only [List.length_cons, List.length_nil]; omega)
    split at h
    · cases h
    split at h
    · cases h
    exact tx_ln T m _ _ r h (by rw [List.length_append]; simp only [List.length_cons, List.length_nil]; omega)
theorem tx_len {T : List Int32} {m s : Nat} {r : Nat × List Int32} (h : txS T m (s + 1) [] = some r) : r.2.length < T.length := by
  have := tx_ln T m (s + 1) [] r h (by simp)
  omega
set_option maxRecDepth 20000 in
set_option maxHeartbeats 4000000 in
/-- takeText() -/
theorem T_ttxt {X : Nat × (Nat → Int32)} {h0 h : PH} {Q : Option Value → PH → Prop} {T : List Int32} {α : AK} {D : Nat} {s : Nat} (t : TK T s α.2.2) {sec : Bool} {a : AS} (ar : AR D T sec a α) {pl : Nat} (f : Fa D h0 h) (q : RA D h T α) (k1 : ¬ uC T s = 5 → FE D h0 T α Q 1 s) (k4 : uC T s = 5 → roS a.2.2.2.1 a.2.2.2.2.1.length ((uX T s).length + 1) = false → FE D h0 T α Q 4 pl) (kO : uC T s = 5 → roS a.2.2.2.1 a.2.2.2.2.1.length ((uX T s).length + 1) = true → GO D h0 T α Q sec (a.1, a.2.1, a.2.2.1, a.2.2.2.1, a.2.2.2.2.1 ++ (uX T s).map (fun b => b &&& 65535) ++ [0], a.2.2.2.2.2)) : WP X mX0_takeText 1 22 0 (en 5 [.ref 3, .int (nI pl)]) [] h Q := by
  refine w_aload_n dX0_takeText_0 rfl rfl ?_
  refine w_gs (b := 12) q.1 dX0_takeText_1 fX0_41 (by decide) rfl rfl (by decide) ?_
  refine a_gk (k := 2) (by decide) q dX0_takeText_4 fX0_104 ?_
  refine w_iconst dX0_takeText_7 (v := 5) (by decide) ?_
  refine w_icmp_eq (tgt := 24) dX0_takeText_8 (by decide) (fun c_8 => ?_) (fun c_8 => ?_)
  · rw [t.2.1, show (5 : Int32) = nI 5 from rfl, ki_e (by decide)] at c_8
    have dn := D_n q.2.2.1
    have n3 : (3 : Nat) ≠ D := Ne.symm dn.2.2.2.2.2.2.2.2.2.1
    have n31 : (3 : Nat) ≠ D + 1 := by omega
    have hT := q.2.1.2.1.2.1
    obtain ⟨r, er, ex⟩ := uC_5i c_8
    have hr : r.2.length < T.length := tx_len er
    have ev : α.2.2.1 4 = nI r.2.length := by rw [t.2.2.2.1 (Or.inr (Or.inr c_8))]; unfold uV; rw [if_pos c_8, ex]
    rw [ex] at k4 kO
    refine w_aload_n dX0_takeText_24 rfl rfl ?_
    refine a_gD q dX0_takeText_25 fX0_21 ?_
    refine w_aload_n dX0_takeText_28 rfl rfl ?_
    refine w_gs (b := 12) q.1 dX0_takeText_29 fX0_41 (by decide) rfl rfl (by decide) ?_
    refine a_gk (k := 4) (by decide) q dX0_takeText_32 fX0_198 ?_
    refine w_iconst dX0_takeText_35 (v := 1) (by decide) ?_
    refine w_iadd dX0_takeText_36 ?_
    refine w_v1 (d2 := 0) (L2 := 0) dX0_takeText_37 vX0_143 (D_n q.2.2.1).1 (q.1.lt (D_n q.2.2.1).2.1) rfl (by decide) (Nat.le_of_ble_eq_true rfl) (by decide) (by decide) ?_
    rw [ev, nI_1]
    refine T_room ar.2.2.2.1.1 ar.2.2.2.2.1.1 ar.2.2.2.2.1.2.1 ar.2.2.2.1.2 (by omega) q ?_
    cases ro9 : roS a.2.2.2.1 a.2.2.2.2.1.length (r.2.length + 1)
    · refine k_i rfl ?_
      refine w_if_ne (tgt := 49) dX0_takeText_40 (by decide) (fun c_40 => absurd c_40 (by decide)) (fun c_40 => ?_)
      refine w_aload_n dX0_takeText_43 rfl rfl ?_
      refine w_iconst dX0_takeText_44 (v := 4) (by decide) ?_
      refine w_iload_n dX0_takeText_45 rfl rfl ?_
      refine w_v2 (d2 := 0) (L2 := 0) dX0_takeText_46 vX0_97 rfl (q.1.lt (by decide)) rfl rfl (by decide) (Nat.le_of_ble_eq_true rfl) (by decide) (by decide) ?_
      refine T_fail f q (fun hy fy qy => ?_)
      refine k_v rfl ?_
      refine w_aload_n dX0_takeText_49 rfl rfl ?_
      refine w_gs (b := 12) qy.1 dX0_takeText_50 fX0_41 (by decide) rfl rfl (by decide) ?_
      refine a_gk (k := 3) (by decide) qy dX0_takeText_53 fX0_119 ?_
      refine w_iconst dX0_takeText_56 (v := 1) (by decide) ?_
      refine w_iadd dX0_takeText_57 ?_
      refine w_istore_n dX0_takeText_58 rfl (by decide) ?_
      refine w_iconst dX0_takeText_59 (v := 0) (by decide) ?_
      refine w_istore_n dX0_takeText_60 rfl (by decide) ?_
      have e3' : (faS α 4 (nI pl)).2.2.1 3 = nI s := by rw [show faS α 4 (nI pl) = aP (aP α 3 7 4) 3 8 (nI pl) from if_pos ar.1]; exact t.2.2.1
      have e4' : (faS α 4 (nI pl)).2.2.1 4 = nI r.2.length := by rw [show faS α 4 (nI pl) = aP (aP α 3 7 4) 3 8 (nI pl) from if_pos ar.1]; exact ev
      have ed' : (faS α 4 (nI pl)).1 D 2 = nI a.2.2.2.2.1.length := by rw [show faS α 4 (nI pl) = aP (aP α 3 7 4) 3 8 (nI pl) from if_pos ar.1, aP_c (Ne.symm n3), aP_c (Ne.symm n3)]; exact ar.2.2.2.1.1
      rw [e3', nI_1]
      exact L_tt hT (by omega) r.2.length (T.length - s) (s + 1) [] _ _ _ _ (by simp) (fun _ => er) ed' ar.2.2.2.1.2 e4' fy qy (fun hx fx qx => by
        have e9 : faS α 4 (nI pl) = aP (aP α 3 7 4) 3 8 (nI pl) := if_pos ar.1
        exact k4 c_8 ro9 _ _ fx qx ((adL_3 n3 n31 _ _ _).trans (by rw [e9]; exact (aP_k (by decide)).trans aP_s)) (by decide) ((adL_3 n3 n31 _ _ _).trans (by rw [e9]; exact aP_s)) ((adL_3 n3 n31 _ _ _).trans (by rw [e9]; exact (aP_k (by decide)).trans (aP_k (by decide)))))
    · refine k_i rfl ?_
      refine w_if_ne (tgt := 49) dX0_takeText_40 (by decide) (fun c_40 => ?_) (fun c_40 => absurd c_40 (by decide))
      refine w_aload_n dX0_takeText_49 rfl rfl ?_
      refine w_gs (b := 12) q.1 dX0_takeText_50 fX0_41 (by decide) rfl rfl (by decide) ?_
      refine a_gk (k := 3) (by decide) q dX0_takeText_53 fX0_119 ?_
      refine w_iconst dX0_takeText_56 (v := 1) (by decide) ?_
      refine w_iadd dX0_takeText_57 ?_
      refine w_istore_n dX0_takeText_58 rfl (by decide) ?_
      refine w_iconst dX0_takeText_59 (v := 0) (by decide) ?_
      refine w_istore_n dX0_takeText_60 rfl (by decide) ?_
      rw [t.2.2.1, nI_1]
      exact L_tt hT (by omega) r.2.length (T.length - s) (s + 1) [] _ _ _ _ (by simp) (fun _ => er) ar.2.2.2.1.1 ar.2.2.2.1.2 ev f q (fun hx fx qx => by
        have r9 := ro9
        unfold roS at r9
        rw [Bool.and_eq_true, decide_eq_true_eq, decide_eq_true_eq] at r9
        have ax := AR.adl q.2.2.1 (r.2 ++ [0]) _ _ ar (by rw [List.length_append]; exact r9.1) (by rw [List.length_append]; exact r9.2)
        rw [List.map_append, show ([0] : List Int32).map (fun b => b &&& 65535) = [0] from by decide, ← List.append_assoc] at ax
        exact kO c_8 ro9 _ _ fx qx ax (by rw [adL_2]) (adL_3 n3 n31 _ _ _))
  · rw [t.2.1, show (5 : Int32) = nI 5 from rfl, ki_e (by decide)] at c_8
    refine w_aload_n dX0_takeText_11 rfl rfl ?_
    refine w_iconst dX0_takeText_12 (v := 1) (by decide) ?_
    refine w_aload_n dX0_takeText_13 rfl rfl ?_
    refine w_gs (b := 12) q.1 dX0_takeText_14 fX0_41 (by decide) rfl rfl (by decide) ?_
    refine a_gk (k := 3) (by decide) q dX0_takeText_17 fX0_119 ?_
    refine w_v2 (d2 := 0) (L2 := 0) dX0_takeText_20 vX0_97 rfl (q.1.lt (by decide)) rfl rfl (by decide) (Nat.le_of_ble_eq_true rfl) (by decide) (by decide) ?_
    rw [t.2.2.1]
    refine T_fail f q (fun hz fz qz => ?_)
    refine k_v rfl ?_
    refine w_vret dX0_takeText_23 ?_
    exact fe1 (k1 c_8) ar.1 (by decide) _ fz qz

