/-! THE REFERENCE's ASSEMBLER: statements -/
theorem opN_4 : ∀ k, k < 30 → 4 ≤ opN.getD k 0 := by decide +kernel
theorem MA.l1 {T : List Int32} {sec : Bool} {a : AS} {ψ φ : Nat → Nat → Int32} {p : Nat} {x w : Int32} (ma : MA T sec a ψ) (hb : a.2.1 = true) (ov : a.2.2.1 = false) (ro : roS a.2.2.2.1 a.2.2.2.2.1.length 1 = true) (u : UV ψ φ) (hp : p ≤ T.length) (hx : sec = true → x &&& 65535 = w) : MA T sec (p, true, false, a.2.2.2.1, a.2.2.2.2.1 ++ [w], a.2.2.2.2.2) (lyP φ a.2.2.2.2.1.length (a.2.2.2.1 + a.2.2.2.2.1.length) x) := by
  have m1 : MA T sec (p, true, false, a.2.2.2.1, a.2.2.2.2.1, a.2.2.2.2.2) φ := by
    have m2 := MA.p (p := a.1) (p' := p) (ma.uv u) hp
    rw [← hb, ← ov]; exact m2
  unfold roS at ro
  rw [Bool.and_eq_true, decide_eq_true_eq, decide_eq_true_eq] at ro
  exact m1.lay (by have := ro.1; omega) (by have := ro.2; omega) hx
theorem tx_ge (T : List Int32) : ∀ (m i : Nat) (l : List Int32) (r : Nat × List Int32), txS T m i l = some r → ∀ {s : Nat}, s ≤ i → s ≤ r.1
  | 0, _, _, _, h, _, _ => by cases h
  | m + 1, i, l, r, h, s, hs => by
    rw [txS] at h
    split at h
    · cases h; show s ≤ i + 1; omega
    split at h
    · split at h
      · cases h
      · exact tx_ge T m _ _ r h (by omega)
    split at h
    · cases h
    split at h
    · cases h
    exact tx_ge T m _ _ r h (by omega)
theorem uE_ge {T : List Int32} {s : Nat} (h : s ≤ T.length) : s ≤ uE T s := by
  unfold uE
  split
  · exact Nat.le_refl _
  split
  · exact Nat.le_refl _
  split
  · cases e : txS T (T.length - s) (s + 1) [] with
    | none => exact Nat.le_refl _
    | some r => exact tx_ge T _ _ _ r e (by omega)
  split
  · exact Nat.le_refl _
  · exact (wd1_p h).1
theorem shS_le {T : List Int32} {Λ : LbS} {here : Nat} : ∀ (fs : List Int32) (p : Nat) (w : Int32) (r : Nat × Int32), p ≤ T.length → shS T Λ here fs p w = .inr r → p ≤ r.1 ∧ r.1 ≤ T.length
  | [], p, w, r, hp, h => by cases h; exact ⟨Nat.le_refl _, hp⟩
  | f :: fs, p, w, r, hp, h => by
    have hx := nx_p hp
    have hu := uE_le hx.2
    have hg := uE_ge hx.2
    rw [shS] at h
    split at h
    · cases h
    · have := shS_le fs _ _ r hu h
      exact ⟨by omega, this.2⟩
set_option maxRecDepth 20000 in
set_option maxHeartbeats 4000000 in
/-- named() -/
theorem T_named {X : Nat × (Nat → Int32)} {h0 h : PH} {Q : Option Value → PH → Prop} {T : List Int32} {ψ : Nat → Nat → Int32} {k9 : Nat} (hk : k9 < 30) {s : Nat} (hB : Byt T) (hs : s ≤ T.length) (t : RTK T s ψ) {sec : Bool} {a : AS} (ma : MA T sec a ψ) (hb : a.2.1 = true) (ov : a.2.2.1 = false) (f : Fu h0 h) (q : RU h T ψ) (kF : ∀ e, smS T sec (opN.getD k9 0) s a = .inl e → RF h0 T ψ Q e.1 e.2) (kG : ∀ b, smS T sec (opN.getD k9 0) s a = .inr b → RP h0 T ψ Q sec b) : WP X mX11_named 9 199 0 (en 3 [.ref 25, .int (nI k9), .int (nI s)]) [] h Q := by
  have h4 := opN_4 k9 hk
  refine w_aload_n dX11_named_0 rfl rfl ?_
  refine w_iconst dX11_named_1 (v := 1) (by decide) ?_
  refine w_iload_n dX11_named_2 rfl rfl ?_
  refine w_v2 (d2 := 1) (L2 := 22) dX11_named_3 vX11_324 rfl (q.1.lt (by decide)) rfl rfl (by decide) (Nat.le_of_ble_eq_true rfl) (by decide) (by decide) ?_
  refine T_mroom (m := 1) (by decide) ma hb f q (fun ro hz φz fz qz z1 z2 z3 => ?_) (fun ro => ?_)
  · refine k_i rfl ?_
    refine w_if_eq (tgt := 17) dX11_named_6 (by decide) (fun c_6 => ?_) (fun c_6 => absurd c_6 (by decide))
    refine w_iconst dX11_named_17 (v := 0) (by decide) ?_
    refine w_iret dX11_named_18 (fun _ e => by cases e; decide) ?_
    exact kF (4, s) (by rw [sm_4 h4, if_neg (by rw [ro]; decide)]) _ _ fz qz z1 z2 z3
  · refine k_i rfl ?_
    refine w_if_eq (tgt := 17) dX11_named_6 (by decide) (fun c_6 => absurd c_6 (by decide)) (fun c_6 => ?_)
    refine w_aload_n dX11_named_9 rfl rfl ?_
    refine w_iload_n dX11_named_10 rfl rfl ?_
    refine w_v1 (d2 := 8) (L2 := 178) dX11_named_11 vX11_337 rfl (q.1.lt (by decide)) rfl (by decide) (Nat.le_of_ble_eq_true rfl) (by decide) (by decide) ?_
    refine T_inst hk ma hb hB (uE_le hs) t.1 f q (fun e e9 ha φa fa qa z1 z2 z3 => ?_) (fun r e9 ha φa fa qa z1 z2 z3 => ?_)
    · refine k_i rfl ?_
      refine w_if_ne (tgt := 19) dX11_named_14 (by decide) (fun c_14 => absurd c_14 (by decide)) (fun c_14 => ?_)
      refine w_iconst dX11_named_17 (v := 0) (by decide) ?_
      refine w_iret dX11_named_18 (fun _ e => by cases e; decide) ?_
      exact kF e (by rw [sm_4 h4, if_pos ro, e9]) _ _ fa qa z1 z2 z3
    · refine k_i rfl ?_
      refine w_if_ne (tgt := 19) dX11_named_14 (by decide) (fun c_14 => ?_) (fun c_14 => absurd c_14 (by decide))
      refine w_aload_n dX11_named_19 rfl rfl ?_
      refine w_aload_n dX11_named_20 rfl rfl ?_
      refine u_get (k := 51) (by decide) qa dX11_named_21 fX11_331 ?_
      refine w_v1 (d2 := 1) (L2 := 20) dX11_named_24 vX11_334 rfl (qa.1.lt (by decide)) rfl (by decide) (Nat.le_of_ble_eq_true rfl) (by decide) (by decide) ?_
      refine T_lay (n := a.2.2.2.2.1.length) (g := a.2.2.2.1 + a.2.2.2.2.1.length) ((z1 25 31 (by decide) (by decide)).trans ma.2.2.1.1) ((z1 25 48 (by decide) (by decide)).trans (ma.2.2.2.1 hb).1) (by have := ro; unfold roS at this; rw [Bool.and_eq_true, decide_eq_true_eq] at this; have := this.1; omega) fa qa (fun h1 f1 q1 => ?_)
      refine k_v rfl ?_
      refine w_iconst dX11_named_27 (v := 1) (by decide) ?_
      refine w_iret dX11_named_28 (fun _ e => by cases e; decide) ?_
      exact kG _ (by rw [sm_4 h4, if_pos ro, e9]) _ _ f1 q1 (lyP_ub z1.ub) (ma.l1 hb ov ro z1 (shS_le _ _ _ _ (uE_le hs) e9).2 (fun hs9 => by rw [z3 hs9])) ((lyP_25 (by decide) (by decide)).trans z2)

theorem MA.ov {T : List Int32} {sec : Bool} {p o : Nat} {b v : Bool} {made : List Int32} {l : List (Nat × Nat)} {ψ : Nat → Nat → Int32} (h : MA T sec (p, b, v, o, made, l) ψ) : MA T sec (p, b, true, o, made, l) (uP ψ 25 50 1) := by
  obtain ⟨a1, a2, a3, a4, a5, a6, a7, a8, a9⟩ := h
  exact ⟨(uP_k (by decide)).trans a1, ⟨(uP_k (by decide)).trans a2.1, uP_s⟩, ⟨(uP_k (by decide)).trans a3.1, a3.2⟩, fun hb => ⟨(uP_k (by decide)).trans (a4 hb).1, (uP_k (by decide)).trans (a4 hb).2⟩, a5, fun hs i v hv => (uP_c (by decide)).trans (a6 hs i v hv), ⟨(uP_k (by decide)).trans a7.1, a7.2.1, fun i hi => ⟨(uP_c (by decide)).trans (a7.2.2 i hi).1, (uP_c (by decide)).trans (a7.2.2 i hi).2.1, (uP_c (by decide)).trans (a7.2.2 i hi).2.2.1, (a7.2.2 i hi).2.2.2⟩⟩, ⟨(uP_k (by decide)).trans a8.1, (uP_k (by decide)).trans a8.2⟩, a9⟩
theorem an_an (x : Int32) : (x &&& 65535) &&& 65535 = x &&& 65535 := by rw [Int32.and_assoc]; rfl
theorem va_vl {T : List Int32} {Λ : LbS} {here s : Nat} : (match vaS T Λ s 0 with
    | .inl e => (.inl (e, s) : FA ⊕ Int32)
    | .inr v => .inr (v &&& 65535)) = (match vlS T Λ here s (-32768) 65535 false with
    | .inl e => .inl (e, s)
    | .inr x => .inr (x &&& 65535)) := by
  unfold vaS vlS
  by_cases c4 : uC T s = 4
  · rw [if_pos c4, if_neg (by rw [c4]; decide), if_pos c4]
    cases plS T Λ s with
    | none => rfl
    | some p =>
      show (Sum.inr ((nI p &&& 65535) &&& 65535) : FA ⊕ Int32) = (match (if Λ.1 = true ∧ false = true ∧ _ then (Sum.inl 6 : RS) else .inr (nI p)) with | .inl e => .inl (e, s) | .inr x => .inr (x &&& 65535))
      rw [if_neg (fun x => absurd x.2.1 (by decide)), an_an]
  · rw [if_neg c4]
    unfold nuS
    by_cases c2 : uC T s = 2
    · rw [if_pos c2, if_pos c2]
      by_cases g1 : uV T s < -32768
      · rw [if_pos g1, if_pos g1]
      · rw [if_neg g1, if_neg g1]
        by_cases g2 : 65535 < uV T s
        · rw [if_pos g2, if_pos g2]
        · rw [if_neg g2, if_neg g2]
          show Sum.inr ((0 ||| (uV T s &&& 65535)) &&& 65535) = _
          rw [Int32.zero_or, an_an]
    · rw [if_neg c2, if_neg c2, if_neg c4]
theorem sm_36 {T : List Int32} {sec : Bool} {s : Nat} {a : AS} (ro : roS a.2.2.2.1 a.2.2.2.2.1.length 1 = true) : smS T sec 36 s a = (match vlS T (laS sec a.2.2.2.2.2) (a.2.2.2.1 + a.2.2.2.2.1.length) (nx T (uE T s)) (-32768) 65535 false with
    | .inl e => .inl (e, nx T (uE T s))
    | .inr x => .inr (uE T (nx T (uE T s)), true, false, a.2.2.2.1, a.2.2.2.2.1 ++ [x &&& 65535], a.2.2.2.2.2)) := by
  rw [sm_4 (by decide), if_pos ro, show sB (opSh.getD 36 0) = [70] from by decide +kernel, show opBase.getD 36 0 = 0 from by decide +kernel]
  have v := va_vl (T := T) (Λ := laS sec a.2.2.2.2.2) (here := a.2.2.2.1 + a.2.2.2.2.1.length) (s := nx T (uE T s))
  show (match (match vaS T (laS sec a.2.2.2.2.2) (nx T (uE T s)) 0 with | .inl e => (.inl (e, nx T (uE T s)) : FA ⊕ (Nat × Int32)) | .inr v => .inr (uE T (nx T (uE T s)), v)) with | .inl e => (.inl e : FA ⊕ AS) | .inr r => .inr (r.1, true, false, a.2.2.2.1, a.2.2.2.2.1 ++ [r.2 &&& 65535], a.2.2.2.2.2)) = _
  cases e1 : vaS T (laS sec a.2.2.2.2.2) (nx T (uE T s)) 0 <;> cases e2 : vlS T (laS sec a.2.2.2.2.2) (a.2.2.2.1 + a.2.2.2.2.1.length) (nx T (uE T s)) (-32768) 65535 false <;> rw [e1, e2] at v
  · cases v; rfl
  · cases v
  · cases v
  · have := Sum.inr.inj v
    show Sum.inr (_, true, false, _, _ ++ [_ &&& 65535], _) = Sum.inr (_, true, false, _, _ ++ [_ &&& 65535], _)
    rw [this]
set_option maxRecDepth 20000 in
set_option maxHeartbeats 4000000 in
theorem T_do34 {X : Nat × (Nat → Int32)} {h0 h : PH} {Q : Option Value → PH → Prop} {T : List Int32} {ψ : Nat → Nat → Int32} {s : Nat} (hB : Byt T) (hs : s ≤ T.length) (t : RTK T s ψ) {sec : Bool} {a : AS} (ma : MA T sec a ψ) (hb : a.2.1 = true) (ov : a.2.2.1 = false) (f : Fu h0 h) (q : RU h T ψ) (kF : ∀ e, smS T sec 3 s a = .inl e → RF h0 T ψ Q e.1 e.2) (kG : ∀ b, smS T sec 3 s a = .inr b → RP h0 T ψ Q sec b) : WP X mX11_dotted 7 156 0 (en 5 [.ref 25, .int 34, .int (nI s)]) [] h Q := by
  refine w_iload_n dX11_dotted_0 rfl rfl ?_
  refine w_bipush dX11_dotted_1 (v := 34) (by decide) ?_
  refine w_icmp_ne (tgt := 13) dX11_dotted_3 (by decide) (fun c_3 => absurd c_3 (by decide)) (fun c_3 => ?_)
  refine w_aload_n dX11_dotted_6 rfl rfl ?_
  refine w_iconst dX11_dotted_7 (v := 1) (by decide) ?_
  refine u_putz (k := 50) (by decide) (by decide) f q dX11_dotted_8 fX11_292 (fun h1 f1 q1 => ?_)
  refine w_iconst dX11_dotted_11 (v := 1) (by decide) ?_
  refine w_iret dX11_dotted_12 (fun _ e => by cases e; decide) ?_
  refine kG _ rfl _ _ f1 q1 (UB.rf.p (by decide)) ?_ ((uP_k (by decide)).trans t.1)
  have m2 := (MA.p (p := a.1) (p' := uE T s) ma (uE_le hs)).ov
  rw [hb] at m2
  exact m2

set_option maxRecDepth 20000 in
set_option maxHeartbeats 4000000 in
theorem T_do31 {X : Nat × (Nat → Int32)} {h0 h : PH} {Q : Option Value → PH → Prop} {T : List Int32} {ψ : Nat → Nat → Int32} {s : Nat} (hB : Byt T) (hs : s ≤ T.length) (t : RTK T s ψ) {sec : Bool} {a : AS} (ma : MA T sec a ψ) (hb : a.2.1 = true) (ov : a.2.2.1 = false) (f : Fu h0 h) (q : RU h T ψ) (kF : ∀ e, smS T sec 36 s a = .inl e → RF h0 T ψ Q e.1 e.2) (kG : ∀ b, smS T sec 36 s a = .inr b → RP h0 T ψ Q sec b) : WP X mX11_dotted 7 156 0 (en 5 [.ref 25, .int 31, .int (nI s)]) [] h Q := by
  refine w_iload_n dX11_dotted_0 rfl rfl ?_
  refine w_bipush dX11_dotted_1 (v := 34) (by decide) ?_
  refine w_icmp_ne (tgt := 13) dX11_dotted_3 (by decide) (fun c_3 => ?_) (fun c_3 => absurd c_3 (by decide))
  refine w_iload_n dX11_dotted_13 rfl rfl ?_
  refine w_bipush dX11_dotted_14 (v := 31) (by decide) ?_
  refine w_icmp_ne (tgt := 59) dX11_dotted_16 (by decide) (fun c_16 => absurd c_16 (by decide)) (fun c_16 => ?_)
  refine w_aload_n dX11_dotted_19 rfl rfl ?_
  refine w_iconst dX11_dotted_20 (v := 1) (by decide) ?_
  refine w_iload_n dX11_dotted_21 rfl rfl ?_
  refine w_v2 (d2 := 1) (L2 := 22) dX11_dotted_22 vX11_324 rfl (q.1.lt (by decide)) rfl rfl (by decide) (Nat.le_of_ble_eq_true rfl) (by decide) (by decide) ?_
  refine T_mroom (m := 1) (by decide) ma hb f q (fun ro hz φz fz qz z1 z2 z3 => ?_) (fun ro => ?_)
  · refine k_i rfl ?_
    refine w_if_ne (tgt := 30) dX11_dotted_25 (by decide) (fun c_25 => absurd c_25 (by decide)) (fun c_25 => ?_)
    refine w_iconst dX11_dotted_28 (v := 0) (by decide) ?_
    refine w_iret dX11_dotted_29 (fun _ e => by cases e; decide) ?_
    exact kF (4, s) (by rw [sm_4 (by decide), if_neg (by rw [ro]; decide)]) _ _ fz qz z1 z2 z3
  · refine k_i rfl ?_
    refine w_if_ne (tgt := 30) dX11_dotted_25 (by decide) (fun c_25 => ?_) (fun c_25 => absurd c_25 (by decide))
    refine w_aload_n dX11_dotted_30 rfl rfl ?_
    refine w_v0 (d2 := 3) (L2 := 60) dX11_dotted_31 vX11_297 rfl (q.1.lt (by decide)) (by decide) (Nat.le_of_ble_eq_true rfl) (by decide) (by decide) ?_
    refine T_next hB (uE_le hs) t.1 f q (fun ha φa fa qa ua ta => ?_)
    refine k_v rfl ?_
    have hx := nx_p (uE_le hs)
    rw [sm_36 ro] at kF kG
    refine w_aload_n dX11_dotted_34 rfl rfl ?_
    refine w_sipush dX11_dotted_35 (v := (-32768)) (by decide) ?_
    refine w_ldc dX11_dotted_38 kX11_87 ?_
    refine w_iconst dX11_dotted_40 (v := 0) (by decide) ?_
    refine w_v3 (d2 := 6) (L2 := 132) dX11_dotted_41 vX11_327 rfl (qa.1.lt (by decide)) rfl rfl rfl (by decide) (Nat.le_of_ble_eq_true rfl) (by decide) (by decide) ?_
    refine T_val0 hB hx.2 ta (ma.uv ua.uv) hb fa qa (fun e e9 hb9 φb fb qb z1 z2 z3 => ?_) (fun x e9 hb9 φb fb qb z1 z2 z3 => ?_)
    · refine k_i rfl ?_
      refine w_if_ne (tgt := 49) dX11_dotted_44 (by decide) (fun c_44 => absurd c_44 (by decide)) (fun c_44 => ?_)
      refine w_iconst dX11_dotted_47 (v := 0) (by decide) ?_
      refine w_iret dX11_dotted_48 (fun _ e => by cases e; decide) ?_
      exact kF (e, (nx T (uE T s))) (by rw [e9]) _ _ fb qb (ua.uv.ub.tr z1) z2 z3
    · refine k_i rfl ?_
      refine w_if_ne (tgt := 49) dX11_dotted_44 (by decide) (fun c_44 => ?_) (fun c_44 => absurd c_44 (by decide))
      refine w_aload_n dX11_dotted_49 rfl rfl ?_
      refine w_aload_n dX11_dotted_50 rfl rfl ?_
      refine u_get (k := 51) (by decide) qb dX11_dotted_51 fX11_331 ?_
      refine w_v1 (d2 := 1) (L2 := 20) dX11_dotted_54 vX11_334 rfl (qb.1.lt (by decide)) rfl (by decide) (Nat.le_of_ble_eq_true rfl) (by decide) (by decide) ?_
      refine T_lay (n := a.2.2.2.2.1.length) (g := a.2.2.2.1 + a.2.2.2.2.1.length) (((ua.uv.tr z1) 25 31 (by decide) (by decide)).trans ma.2.2.1.1) (((ua.uv.tr z1) 25 48 (by decide) (by decide)).trans (ma.2.2.2.1 hb).1) (by have := ro; unfold roS at this; rw [Bool.and_eq_true, decide_eq_true_eq] at this; have := this.1; omega) fb qb (fun h1 f1 q1 => ?_)
      refine k_v rfl ?_
      refine w_iconst dX11_dotted_57 (v := 1) (by decide) ?_
      refine w_iret dX11_dotted_58 (fun _ e => by cases e; decide) ?_
      exact kG _ (by rw [e9]) _ _ f1 q1 (lyP_ub (ua.uv.tr z1).ub) (ma.l1 hb ov ro (ua.uv.tr z1) (uE_le hx.2) (fun hs9 => by rw [z3 hs9])) ((lyP_25 (by decide) (by decide)).trans z2)

def lyL : (Nat → Nat → Int32) → Nat → Nat → List Int32 → Nat → Nat → Int32
  | ψ, _, _, [] => ψ
  | ψ, n, g, w :: l => lyL (lyP ψ n g w) (n + 1) (g + 1) l
theorem lyL_ub {ψ : Nat → Nat → Int32} : ∀ (l : List Int32) (φ : Nat → Nat → Int32) (n g : Nat), UB ψ φ → UB ψ (lyL φ n g l)
  | [], _, _, _, u => u
  | w :: l, φ, n, g, u => lyL_ub l _ _ _ (lyP_ub u)
theorem lyL_25 {k : Nat} (h1 : k ≠ 31) (h2 : k ≠ 48) : ∀ (l : List Int32) (φ : Nat → Nat → Int32) (n g : Nat), lyL φ n g l 25 k = φ 25 k
  | [], _, _, _ => rfl
  | w :: l, φ, n, g => by rw [lyL, lyL_25 h1 h2 l, lyP_25 h1 h2]
theorem MA.ll {T : List Int32} {sec : Bool} {p o : Nat} {v : Bool} {l9 : List (Nat × Nat)} : ∀ (l made : List Int32) (ψ : Nat → Nat → Int32), MA T sec (p, true, v, o, made, l9) ψ → made.length + l.length ≤ 4096 → o + made.length + l.length ≤ 65536 → MA T sec (p, true, v, o, made ++ l.map (fun b => b &&& 65535), l9) (lyL ψ made.length (o + made.length) l)
  | [], made, ψ, h, _, _ => by rw [List.map_nil, List.append_nil]; exact h
  | w :: l, made, ψ, h, h1, h2 => by
    rw [List.length_cons] at h1 h2
    have k := MA.ll l (made ++ [w &&& 65535]) (lyP ψ made.length (o + made.length) w) (h.lay (by omega) (by omega) (fun _ => rfl)) (by rw [List.length_append]; simp only [List.length_cons, List.length_nil]; omega) (by rw [List.length_append]; simp only [List.length_cons, List.length_nil]; omega)
    rw [List.length_append, show [w &&& 65535].length = 1 from rfl, ← Nat.add_assoc] at k
    rw [lyL, List.map_cons]
    rw [List.append_assoc] at k
    exact k
set_option maxRecDepth 20000 in
set_option maxHeartbeats 4000000 in
theorem L_mbk {X : Nat × (Nat → Int32)} {h0 : PH} {Q : Option Value → PH → Prop} {T : List Int32} {x1 x2 : Int32} {u : Nat} (hu : u ≤ 4096) : ∀ (m i : Nat) (h : PH) (ψ : Nat → Nat → Int32) (n g : Nat), i + m = u → ψ 25 31 = nI n → ψ 25 48 = nI g → n + m ≤ 4096 → Fu h0 h → RU h T ψ → (∀ h', Fu h0 h' → RU h' T (lyL ψ n g (List.replicate m 0)) → Q (some (.int 1)) h') → WP X mX11_dotted 7 156 131 [some (.ref 25), some (.int x1), some (.int x2), some (.int (nI u)), some (.int (nI i))] [] h Q := by
  intro m
  induction m with
  | zero =>
    intro i h ψ n g hi e1 e2 hn f q k
    refine w_iload dX11_dotted_131 rfl ?_
    refine w_iload_n dX11_dotted_133 rfl rfl ?_
    refine w_icmp_ge (tgt := 148) dX11_dotted_134 (by decide) (fun c_134 => ?_) (fun c_134 => absurd c_134 (not_not_intro (nI_le (by omega) (by omega))))
    refine w_iconst dX11_dotted_148 (v := 1) (by decide) ?_
    refine w_iret dX11_dotted_149 (fun _ e => by cases e; decide) ?_
    exact k _ f q
  | succ m ih =>
    intro i h ψ n g hi e1 e2 hn f q k
    refine w_iload dX11_dotted_131 rfl ?_
    refine w_iload_n dX11_dotted_133 rfl rfl ?_
    refine w_icmp_ge (tgt := 148) dX11_dotted_134 (by decide) (fun c_134 => absurd c_134 (nI_ge (by omega) (by omega))) (fun c_134 => ?_)
    refine w_aload_n dX11_dotted_137 rfl rfl ?_
    refine w_iconst dX11_dotted_138 (v := 0) (by decide) ?_
    refine w_v1 (d2 := 1) (L2 := 20) dX11_dotted_139 vX11_334 rfl (q.1.lt (by decide)) rfl (by decide) (Nat.le_of_ble_eq_true rfl) (by decide) (by decide) ?_
    refine T_lay e1 e2 (by omega) f q (fun hz fz qz => ?_)
    refine k_v rfl ?_
    refine w_iinc (v := (nI (i + 1))) dX11_dotted_142 rfl (nI_1 i) (by decide) ?_
    refine w_goto (tgt := 131) dX11_dotted_145 (by decide) ?_
    exact ih (i + 1) hz _ (n + 1) (g + 1) (by omega) ((uP_k (by decide)).trans uP_s) uP_s (by omega) fz qz k

set_option maxRecDepth 20000 in
set_option maxHeartbeats 4000000 in
theorem L_mtx {X : Nat × (Nat → Int32)} {h0 : PH} {Q : Option Value → PH → Prop} {T : List Int32} {x1 x2 : Int32} {x4 : Option Value} {L9 : List Int32} (hu : L9.length ≤ 4000) : ∀ (m i : Nat) (h : PH) (ψ : Nat → Nat → Int32) (n g : Nat), i + m = L9.length → ψ 25 31 = nI n → ψ 25 48 = nI g → n + m + 1 ≤ 4096 → ψ 25 46 = nI L9.length → (∀ (j : Nat) (v : Int32), L9[j]? = some v → ψ 38 j = v) → Fu h0 h → RU h T ψ → (∀ h', Fu h0 h' → RU h' T (lyL ψ n g (L9.drop i ++ [0])) → Q (some (.int 1)) h') → WP X mX11_dotted 7 156 181 [some (.ref 25), some (.int x1), some (.int x2), some (.int (nI i)), x4] [] h Q := by
  intro m
  induction m with
  | zero =>
    intro i h ψ n g hi e1 e2 hn e6 ex f q k
    rw [List.drop_eq_nil_of_le (by omega), List.nil_append] at k
    refine w_iload_n dX11_dotted_181 rfl rfl ?_
    refine w_aload_n dX11_dotted_182 rfl rfl ?_
    refine u_get (k := 46) (by decide) q dX11_dotted_183 fX11_226 ?_
    refine w_icmp_ge (tgt := 205) dX11_dotted_186 (by decide) (fun c_186 => ?_) (fun c_186 => absurd c_186 (not_not_intro (by rw [e6]; exact nI_le (by omega) (by omega))))
    refine w_aload_n dX11_dotted_205 rfl rfl ?_
    refine w_iconst dX11_dotted_206 (v := 0) (by decide) ?_
    refine w_v1 (d2 := 1) (L2 := 20) dX11_dotted_207 vX11_334 rfl (q.1.lt (by decide)) rfl (by decide) (Nat.le_of_ble_eq_true rfl) (by decide) (by decide) ?_
    refine T_lay e1 e2 (by omega) f q (fun hz fz qz => ?_)
    refine k_v rfl ?_
    refine w_iconst dX11_dotted_210 (v := 1) (by decide) ?_
    refine w_iret dX11_dotted_211 (fun _ e => by cases e; decide) ?_
    exact k _ fz qz
  | succ m ih =>
    intro i h ψ n g hi e1 e2 hn e6 ex f q k
    have hil : i < L9.length := by omega
    have hv : L9[i]? = some L9[i] := List.getElem?_eq_getElem hil
    rw [dr_s hv, List.cons_append] at k
    refine w_iload_n dX11_dotted_181 rfl rfl ?_
    refine w_aload_n dX11_dotted_182 rfl rfl ?_
    refine u_get (k := 46) (by decide) q dX11_dotted_183 fX11_226 ?_
    refine w_icmp_ge (tgt := 205) dX11_dotted_186 (by decide) (fun c_186 => absurd c_186 (by rw [e6]; exact nI_ge (by omega) (by omega))) (fun c_186 => ?_)
    refine w_aload_n dX11_dotted_189 rfl rfl ?_
    refine w_aload_n dX11_dotted_190 rfl rfl ?_
    refine w_gs (b := 38) q.1 dX11_dotted_191 fX11_51 (by decide) rfl rfl (by decide) ?_
    refine w_iload_n dX11_dotted_194 rfl rfl ?_
    refine u_ld (c := 38) (by decide) q dX11_dotted_195 (vp_in_nI (show i < 4000 by omega) (by decide)) ?_
    rw [nI_clamp (by omega), ex i _ hv]
    refine w_v1 (d2 := 1) (L2 := 20) dX11_dotted_196 vX11_334 rfl (q.1.lt (by decide)) rfl (by decide) (Nat.le_of_ble_eq_true rfl) (by decide) (by decide) ?_
    refine T_lay e1 e2 (by omega) f q (fun hz fz qz => ?_)
    refine k_v rfl ?_
    refine w_iinc (v := (nI (i + 1))) dX11_dotted_199 rfl (nI_1 i) (by decide) ?_
    refine w_goto (tgt := 181) dX11_dotted_202 (by decide) ?_
    exact ih (i + 1) hz _ (n + 1) (g + 1) (by omega) ((uP_k (by decide)).trans uP_s) uP_s (by omega) ((lyP_25 (by decide) (by decide)).trans e6) (fun j v hj => lyP_38.trans (ex j v hj)) fz qz k

set_option maxRecDepth 20000 in
set_option maxHeartbeats 4000000 in
theorem T_do32 {X : Nat × (Nat → Int32)} {h0 h : PH} {Q : Option Value → PH → Prop} {T : List Int32} {ψ : Nat → Nat → Int32} {s : Nat} (hB : Byt T) (hs : s ≤ T.length) (t : RTK T s ψ) {sec : Bool} {a : AS} (ma : MA T sec a ψ) (hb : a.2.1 = true) (ov : a.2.2.1 = false) (f : Fu h0 h) (q : RU h T ψ) (kF : ∀ e, smS T sec 1 s a = .inl e → RF h0 T ψ Q e.1 e.2) (kG : ∀ b, smS T sec 1 s a = .inr b → RP h0 T ψ Q sec b) : WP X mX11_dotted 7 156 0 (en 5 [.ref 25, .int 32, .int (nI s)]) [] h Q := by
  refine w_iload_n dX11_dotted_0 rfl rfl ?_
  refine w_bipush dX11_dotted_1 (v := 34) (by decide) ?_
  refine w_icmp_ne (tgt := 13) dX11_dotted_3 (by decide) (fun c_3 => ?_) (fun c_3 => absurd c_3 (by decide))
  refine w_iload_n dX11_dotted_13 rfl rfl ?_
  refine w_bipush dX11_dotted_14 (v := 31) (by decide) ?_
  refine w_icmp_ne (tgt := 59) dX11_dotted_16 (by decide) (fun c_16 => ?_) (fun c_16 => absurd c_16 (by decide))
  refine w_aload_n dX11_dotted_59 rfl rfl ?_
  refine w_v0 (d2 := 3) (L2 := 60) dX11_dotted_60 vX11_297 rfl (q.1.lt (by decide)) (by decide) (Nat.le_of_ble_eq_true rfl) (by decide) (by decide) ?_
  refine T_next hB (uE_le hs) t.1 f q (fun ha φa fa qa ua ta => ?_)
  refine k_v rfl ?_
  have hx := nx_p (uE_le hs)
  refine w_iload_n dX11_dotted_63 rfl rfl ?_
  refine w_bipush dX11_dotted_64 (v := 32) (by decide) ?_
  refine w_icmp_ne (tgt := 150) dX11_dotted_66 (by decide) (fun c_66 => absurd c_66 (by decide)) (fun c_66 => ?_)
  refine w_aload_n dX11_dotted_69 rfl rfl ?_
  refine w_v0 (d2 := 2) (L2 := 41) dX11_dotted_70 vX11_246 rfl (qa.1.lt (by decide)) (by decide) (Nat.le_of_ble_eq_true rfl) (by decide) (by decide) ?_
  refine T_isNum hB hx.2 ta fa qa (fun d2 => ?_) (fun d2 hb9 fb qb => ?_)
  · refine k_i rfl ?_
    refine w_if_ne (tgt := 81) dX11_dotted_73 (by decide) (fun c_73 => absurd c_73 (by decide)) (fun c_73 => ?_)
    refine w_aload_n dX11_dotted_76 rfl rfl ?_
    refine w_v0 (d2 := 1) (L2 := 22) dX11_dotted_77 vX11_309 rfl (qa.1.lt (by decide)) (by decide) (Nat.le_of_ble_eq_true rfl) (by decide) (by decide) ?_
    refine T_wrt ta.2.2.1 fa qa (fun hz fz qz => ?_)
    refine k_i rfl ?_
    refine w_iret dX11_dotted_80 (fun _ e => by cases e; decide) ?_
    exact rf1 (kF (1, (nx T (uE T s))) (by unfold smS; rw [if_neg (by decide), if_pos rfl, if_neg d2])) ua.uv.ub _ fz qz
  · refine k_i rfl ?_
    refine w_if_ne (tgt := 81) dX11_dotted_73 (by decide) (fun c_73 => ?_) (fun c_73 => absurd c_73 (by decide))
    have uv9 : UV ψ (uP φa 25 44 (uV T (nx T (uE T s)))) := ua.uv.p (Or.inl (by decide))
    have t42 : uP φa 25 44 (uV T (nx T (uE T s))) 25 42 = nI (nx T (uE T s)) := (uP_k (by decide)).trans ta.2.2.1
    refine w_aload_n dX11_dotted_81 rfl rfl ?_
    refine u_get (k := 44) (by decide) qb dX11_dotted_82 fX11_232 ?_
    refine w_iconst dX11_dotted_85 (v := 1) (by decide) ?_
    refine w_icmp_lt (tgt := 99) dX11_dotted_86 (by decide) (fun c_86 => ?_) (fun c_86 => ?_)
    · rw [uP_s] at c_86
      refine w_aload_n dX11_dotted_99 rfl rfl ?_
      refine w_iconst dX11_dotted_100 (v := 2) (by decide) ?_
      refine w_aload_n dX11_dotted_101 rfl rfl ?_
      refine u_get (k := 42) (by decide) qb dX11_dotted_102 fX11_211 ?_
      refine w_v2 (d2 := 0) (L2 := 0) dX11_dotted_105 vX11_258 rfl (qb.1.lt (by decide)) rfl rfl (by decide) (Nat.le_of_ble_eq_true rfl) (by decide) (by decide) ?_
      rw [t42]
      refine T_wrong fb qb (fun h1 f1 q1 => ?_)
      refine k_i rfl ?_
      refine w_iret dX11_dotted_108 (fun _ e => by cases e; decide) ?_
      exact rf1 (kF (2, (nx T (uE T s))) (by unfold smS; rw [if_neg (by decide), if_pos rfl, if_pos d2, if_pos c_86])) uv9.ub _ f1 q1
    · rw [uP_s] at c_86
      refine w_aload_n dX11_dotted_89 rfl rfl ?_
      refine u_get (k := 44) (by decide) qb dX11_dotted_90 fX11_232 ?_
      refine w_sipush dX11_dotted_93 (v := 4096) (by decide) ?_
      refine w_icmp_le (tgt := 109) dX11_dotted_96 (by decide) (fun c_96 => ?_) (fun c_96 => ?_)
      · rw [uP_s] at c_96
        obtain ⟨u, hu, eu⟩ := nI_of2 (M := 4096) (n := 4096) rfl (show ¬ uV T (nx T (uE T s)) < 0 from fun x => c_86 (Int32.lt_trans x (by decide))) c_96
        have ku : (uV T (nx T (uE T s))).toNatClampNeg = u := by rw [eu]; exact nI_clamp (by omega)
        have nu : uP φa 25 44 (uV T (nx T (uE T s))) 25 44 = nI u := uP_s.trans eu
        have mb := ma.uv uv9
        have sm1 : smS T sec 1 s a = if roS a.2.2.2.1 a.2.2.2.2.1.length u = true then .inr (uE T (nx T (uE T s)), true, false, a.2.2.2.1, a.2.2.2.2.1 ++ List.replicate u 0, a.2.2.2.2.2) else .inl (4, s) := by unfold smS; rw [if_neg (by decide), if_pos rfl, if_pos d2, if_neg c_86, if_neg (Int32.not_lt.mpr c_96), ku]
        refine w_aload_n dX11_dotted_109 rfl rfl ?_
        refine w_aload_n dX11_dotted_110 rfl rfl ?_
        refine u_get (k := 44) (by decide) qb dX11_dotted_111 fX11_232 ?_
        refine w_iload_n dX11_dotted_114 rfl rfl ?_
        refine w_v2 (d2 := 1) (L2 := 22) dX11_dotted_115 vX11_324 rfl (qb.1.lt (by decide)) rfl rfl (by decide) (Nat.le_of_ble_eq_true rfl) (by decide) (by decide) ?_
        rw [nu]
        refine T_mroom (m := u) (by omega) mb hb fb qb (fun ro hz φz fz qz z1 z2 z3 => ?_) (fun ro => ?_)
        · refine k_i rfl ?_
          refine w_if_ne (tgt := 123) dX11_dotted_118 (by decide) (fun c_118 => absurd c_118 (by decide)) (fun c_118 => ?_)
          refine w_iconst dX11_dotted_121 (v := 0) (by decide) ?_
          refine w_iret dX11_dotted_122 (fun _ e => by cases e; decide) ?_
          exact kF (4, s) (by rw [sm1, if_neg (by rw [ro]; decide)]) _ _ fz qz (uv9.ub.tr z1) z2 z3
        · refine k_i rfl ?_
          refine w_if_ne (tgt := 123) dX11_dotted_118 (by decide) (fun c_118 => ?_) (fun c_118 => absurd c_118 (by decide))
          refine w_aload_n dX11_dotted_123 rfl rfl ?_
          refine u_get (k := 44) (by decide) qb dX11_dotted_124 fX11_232 ?_
          refine w_istore_n dX11_dotted_127 rfl (by decide) ?_
          refine w_iconst dX11_dotted_128 (v := 0) (by decide) ?_
          refine w_istore dX11_dotted_129 (by decide) ?_
          rw [nu]
          have r9 := ro
          unfold roS at r9
          rw [Bool.and_eq_true, decide_eq_true_eq, decide_eq_true_eq] at r9
          refine L_mbk hu u 0 _ _ a.2.2.2.2.1.length (a.2.2.2.1 + a.2.2.2.2.1.length) (by omega) mb.2.2.1.1 (mb.2.2.2.1 hb).1 r9.1 fb qb (fun hw fw qw => ?_)
          have m1 : MA T sec (uE T (nx T (uE T s)), true, false, a.2.2.2.1, a.2.2.2.2.1, a.2.2.2.2.2) (uP φa 25 44 (uV T (nx T (uE T s)))) := by
            have m2 := MA.p (p := a.1) (p' := uE T (nx T (uE T s))) mb (uE_le hx.2)
            rw [← hb, ← ov]; exact m2
          have m3 := MA.ll (List.replicate u 0) _ _ m1 (by rw [List.length_replicate]; exact r9.1) (by rw [List.length_replicate]; exact r9.2)
          rw [List.map_replicate, show (0 : Int32) &&& 65535 = 0 from by decide] at m3
          exact kG _ (by rw [sm1, if_pos ro]) _ _ fw qw (lyL_ub _ _ _ _ uv9.ub) m3 ((lyL_25 (by decide) (by decide) _ _ _ _).trans ((uP_k (by decide)).trans ta.1))
      · rw [uP_s] at c_96
        refine w_aload_n dX11_dotted_99 rfl rfl ?_
        refine w_iconst dX11_dotted_100 (v := 2) (by decide) ?_
        refine w_aload_n dX11_dotted_101 rfl rfl ?_
        refine u_get (k := 42) (by decide) qb dX11_dotted_102 fX11_211 ?_
        refine w_v2 (d2 := 0) (L2 := 0) dX11_dotted_105 vX11_258 rfl (qb.1.lt (by decide)) rfl rfl (by decide) (Nat.le_of_ble_eq_true rfl) (by decide) (by decide) ?_
        rw [t42]
        refine T_wrong fb qb (fun h2 f2 q2 => ?_)
        refine k_i rfl ?_
        refine w_iret dX11_dotted_108 (fun _ e => by cases e; decide) ?_
        exact rf1 (kF (2, (nx T (uE T s))) (by unfold smS; rw [if_neg (by decide), if_pos rfl, if_pos d2, if_neg c_86, if_pos (Int32.not_le.mp c_96)])) uv9.ub _ f2 q2

theorem rk_5 {T : List Int32} {s : Nat} : nI (rk T s) = 2 ↔ uC T s = 5 := by
  rw [show (2 : Int32) = nI 2 from rfl, nI_eq (by have := rk_le T s; omega) (by decide)]
  unfold rk
  by_cases c : sgI (bT T s) = 0
  · rw [if_pos c]
    by_cases c0 : uC T s = 0
    · rw [if_pos c0, c0]; decide
    · rw [if_neg c0]
      by_cases c5 : uC T s = 5
      · rw [if_pos c5]; exact ⟨fun _ => c5, fun _ => rfl⟩
      · rw [if_neg c5]; exact ⟨fun e => absurd e (by decide), fun e => absurd e c5⟩
  · rw [if_neg c]; exact ⟨fun e => absurd e (by decide), fun e => absurd e (wk_n5 (sg_w c).1)⟩
theorem rk_z {T : List Int32} {s : Nat} : nI (rk T s) = 0 ↔ uC T s = 0 := by
  rw [show (0 : Int32) = nI 0 from rfl, nI_eq (by have := rk_le T s; omega) (by decide)]
  unfold rk
  by_cases c : sgI (bT T s) = 0
  · rw [if_pos c]
    by_cases c0 : uC T s = 0
    · rw [if_pos c0]; exact ⟨fun _ => c0, fun _ => rfl⟩
    · rw [if_neg c0]
      by_cases c5 : uC T s = 5
      · rw [if_pos c5]; exact ⟨fun e => absurd e (by decide), fun e => absurd e c0⟩
      · rw [if_neg c5]; exact ⟨fun e => absurd e (by decide), fun e => absurd e c0⟩
  · rw [if_neg c]
    refine ⟨fun e => absurd e (by decide), fun e => ?_⟩
    rw [(sg_w c).1] at e
    exact absurd e (by unfold wk; repeat (first | split | decide))
set_option maxRecDepth 20000 in
set_option maxHeartbeats 4000000 in
theorem T_do33 {X : Nat × (Nat → Int32)} {h0 h : PH} {Q : Option Value → PH → Prop} {T : List Int32} {ψ : Nat → Nat → Int32} {s : Nat} (hB : Byt T) (hs : s ≤ T.length) (t : RTK T s ψ) {sec : Bool} {a : AS} (ma : MA T sec a ψ) (hb : a.2.1 = true) (ov : a.2.2.1 = false) (f : Fu h0 h) (q : RU h T ψ) (kF : ∀ e, smS T sec 2 s a = .inl e → RF h0 T ψ Q e.1 e.2) (kG : ∀ b, smS T sec 2 s a = .inr b → RP h0 T ψ Q sec b) : WP X mX11_dotted 7 156 0 (en 5 [.ref 25, .int 33, .int (nI s)]) [] h Q := by
  refine w_iload_n dX11_dotted_0 rfl rfl ?_
  refine w_bipush dX11_dotted_1 (v := 34) (by decide) ?_
  refine w_icmp_ne (tgt := 13) dX11_dotted_3 (by decide) (fun c_3 => ?_) (fun c_3 => absurd c_3 (by decide))
  refine w_iload_n dX11_dotted_13 rfl rfl ?_
  refine w_bipush dX11_dotted_14 (v := 31) (by decide) ?_
  refine w_icmp_ne (tgt := 59) dX11_dotted_16 (by decide) (fun c_16 => ?_) (fun c_16 => absurd c_16 (by decide))
  refine w_aload_n dX11_dotted_59 rfl rfl ?_
  refine w_v0 (d2 := 3) (L2 := 60) dX11_dotted_60 vX11_297 rfl (q.1.lt (by decide)) (by decide) (Nat.le_of_ble_eq_true rfl) (by decide) (by decide) ?_
  refine T_next hB (uE_le hs) t.1 f q (fun ha φa fa qa ua ta => ?_)
  refine k_v rfl ?_
  have hx := nx_p (uE_le hs)
  have hT := q.2.1.1
  refine w_iload_n dX11_dotted_63 rfl rfl ?_
  refine w_bipush dX11_dotted_64 (v := 32) (by decide) ?_
  refine w_icmp_ne (tgt := 150) dX11_dotted_66 (by decide) (fun c_66 => ?_) (fun c_66 => absurd c_66 (by decide))
  refine w_aload_n dX11_dotted_150 rfl rfl ?_
  refine u_get (k := 41) (by decide) qa dX11_dotted_151 fX11_214 ?_
  refine w_iconst dX11_dotted_154 (v := 2) (by decide) ?_
  refine w_icmp_eq (tgt := 163) dX11_dotted_155 (by decide) (fun c_155 => ?_) (fun c_155 => ?_)
  · rw [ta.2.1, rk_5] at c_155
    obtain ⟨r, er, ex⟩ := uC_5i c_155
    have hr : r.2.length < T.length := tx_len er
    have t5 := ta.2.2.2.2 c_155
    rw [ex] at t5
    have mb := ma.uv ua.uv
    have sm1 : smS T sec 2 s a = if roS a.2.2.2.1 a.2.2.2.2.1.length (r.2.length + 1) = true then .inr (uE T (nx T (uE T s)), true, false, a.2.2.2.1, a.2.2.2.2.1 ++ r.2.map (fun b => b &&& 65535) ++ [0], a.2.2.2.2.2) else .inl (4, s) := by unfold smS; rw [if_neg (by decide), if_neg (by decide), if_pos rfl, if_pos c_155, ex]
    refine w_aload_n dX11_dotted_163 rfl rfl ?_
    refine w_aload_n dX11_dotted_164 rfl rfl ?_
    refine u_get (k := 46) (by decide) qa dX11_dotted_165 fX11_226 ?_
    refine w_iconst dX11_dotted_168 (v := 1) (by decide) ?_
    refine w_iadd dX11_dotted_169 ?_
    refine w_iload_n dX11_dotted_170 rfl rfl ?_
    refine w_v2 (d2 := 1) (L2 := 22) dX11_dotted_171 vX11_324 rfl (qa.1.lt (by decide)) rfl rfl (by decide) (Nat.le_of_ble_eq_true rfl) (by decide) (by decide) ?_
    rw [t5.1, nI_1]
    refine T_mroom (m := r.2.length + 1) (by omega) mb hb fa qa (fun ro hz φz fz qz z1 z2 z3 => ?_) (fun ro => ?_)
    · refine k_i rfl ?_
      refine w_if_ne (tgt := 179) dX11_dotted_174 (by decide) (fun c_174 => absurd c_174 (by decide)) (fun c_174 => ?_)
      refine w_iconst dX11_dotted_177 (v := 0) (by decide) ?_
      refine w_iret dX11_dotted_178 (fun _ e => by cases e; decide) ?_
      exact kF (4, s) (by rw [sm1, if_neg (by rw [ro]; decide)]) _ _ fz qz (ua.uv.ub.tr z1) z2 z3
    · refine k_i rfl ?_
      refine w_if_ne (tgt := 179) dX11_dotted_174 (by decide) (fun c_174 => ?_) (fun c_174 => absurd c_174 (by decide))
      refine w_iconst dX11_dotted_179 (v := 0) (by decide) ?_
      refine w_istore_n dX11_dotted_180 rfl (by decide) ?_
      have r9 := ro
      unfold roS at r9
      rw [Bool.and_eq_true, decide_eq_true_eq, decide_eq_true_eq] at r9
      refine L_mtx (L9 := r.2) (by omega) r.2.length 0 _ _ a.2.2.2.2.1.length (a.2.2.2.1 + a.2.2.2.2.1.length) (by omega) mb.2.2.1.1 (mb.2.2.2.1 hb).1 (by have := r9.1; omega) t5.1 t5.2 fa qa (fun hw fw qw => ?_)
      rw [List.drop_zero] at qw
      have m1 : MA T sec (uE T (nx T (uE T s)), true, false, a.2.2.2.1, a.2.2.2.2.1, a.2.2.2.2.2) φa := by
        have m2 := MA.p (p := a.1) (p' := uE T (nx T (uE T s))) mb (uE_le hx.2)
        rw [← hb, ← ov]; exact m2
      have m3 := MA.ll (r.2 ++ [0]) _ _ m1 (by rw [List.length_append]; exact r9.1) (by rw [List.length_append]; exact r9.2)
      rw [List.map_append, show ([0] : List Int32).map (fun b => b &&& 65535) = [0] from by decide, ← List.append_assoc] at m3
      exact kG _ (by rw [sm1, if_pos ro]) _ _ fw qw (lyL_ub _ _ _ _ ua.uv.ub) m3 ((lyL_25 (by decide) (by decide) _ _ _ _).trans ta.1)
  · rw [ta.2.1, rk_5] at c_155
    refine w_aload_n dX11_dotted_158 rfl rfl ?_
    refine w_v0 (d2 := 1) (L2 := 22) dX11_dotted_159 vX11_309 rfl (qa.1.lt (by decide)) (by decide) (Nat.le_of_ble_eq_true rfl) (by decide) (by decide) ?_
    refine T_wrt ta.2.2.1 fa qa (fun hz fz qz => ?_)
    refine k_i rfl ?_
    refine w_iret dX11_dotted_162 (fun _ e => by cases e; decide) ?_
    exact rf1 (kF (1, (nx T (uE T s))) (by unfold smS; rw [if_neg (by decide), if_neg (by decide), if_pos rfl, if_neg c_155])) ua.uv.ub _ fz qz

