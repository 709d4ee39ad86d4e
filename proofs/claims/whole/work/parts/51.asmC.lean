/-! THE CLASS's ASSEMBLER: statements -/
theorem AR.p {D : Nat} {T : List Int32} {sec : Bool} {p p' : Nat} {r : Bool × Bool × Nat × List Int32 × List (Nat × Nat)} {α : AK} (h : AR D T sec (p, r) α) (hp : p' ≤ T.length) : AR D T sec (p', r) α := ⟨h.1, h.2.1, h.2.2.1, h.2.2.2.1, h.2.2.2.2.1, h.2.2.2.2.2.1, h.2.2.2.2.2.2.1, hp⟩
theorem sm_4 {T : List Int32} {sec : Bool} {i s : Nat} {a : AS} (h : 4 ≤ i) : smS T sec i s a = if roS a.2.2.2.1 a.2.2.2.2.1.length 1 = true then (match shS T (laS sec a.2.2.2.2.2) (a.2.2.2.1 + a.2.2.2.2.1.length) (sB (opSh.getD i 0)) (uE T s) (opBase.getD i 0) with
    | .inl e => .inl e
    | .inr r => .inr (r.1, true, false, a.2.2.2.1, a.2.2.2.2.1 ++ [r.2 &&& 65535], a.2.2.2.2.2))
  else .inl (4, s) := by
  unfold smS
  rw [if_neg (by omega), if_neg (by omega), if_neg (by omega), if_neg (by omega)]
  rfl
theorem or_ite {α : Type} {p q : Prop} [Decidable p] [Decidable q] {x y : α} (h : p ∨ q) : (if p then x else if q then x else y) = x := by
  by_cases a : p
  · rw [if_pos a]
  · rw [if_neg a, if_pos (h.resolve_left a)]
theorem AR.og {D : Nat} {T : List Int32} {sec : Bool} {a : AS} {u : Nat} {α : AK} (hD : D = 6 ∨ D = 9) (h : AR D T sec a α) (hu : u ≤ 65535) (h2 : u + a.2.2.2.2.1.length ≤ 65536) : AR D T sec (a.1, a.2.1, a.2.2.1, u, a.2.2.2.2.1, a.2.2.2.2.2) (aP α D 4 (nI u)) := by
  obtain ⟨a1, a2, a3, a4, a5, a6, a7, a8⟩ := h
  have dn := D_n hD
  have n3 : (3 : Nat) ≠ D := Ne.symm dn.2.2.2.2.2.2.2.2.2.1
  refine ⟨(aP_c n3).trans a1, (aP_c n3).trans a2, ⟨(aP_c n3).trans a3.1, (aP_c n3).trans a3.2⟩, ⟨(aP_k (by decide)).trans a4.1, a4.2⟩, ⟨aP_s, hu, h2⟩, fun i v hv => (aP_c (by omega)).trans (a6 i v hv), ?_, a8⟩
  obtain ⟨b1, b2, b3, b4⟩ := a7
  exact ⟨(aP_c n3).trans b1, (aP_k (by decide)).trans b2, b3, fun i hi => ⟨(b4 i hi).1, (b4 i hi).2.1, (aP_c (by omega)).trans (b4 i hi).2.2.1, (b4 i hi).2.2.2⟩⟩
set_option maxRecDepth 20000 in
set_option maxHeartbeats 4000000 in
theorem T_st4 {X : Nat × (Nat → Int32)} {h0 h : PH} {Q : Option Value → PH → Prop} {T : List Int32} {α : AK} {D : Nat} {s : Nat} (hB : Byt T) (hs : s ≤ T.length) (t : TK T s α.2.2) {sec : Bool} {a : AS} (ar : AR D T sec a α) {i : Nat} (hi : i < 37) (hi4 : 4 ≤ i) (f : Fa D h0 h) (q : RA D h T α) (kE1 : ∀ e, smS T sec i s a = .inl e → FE D h0 T α Q e.1 e.2) (kE2 : ∀ b e, smS T sec i s a = .inr b → enS T b = .inl e → FE D h0 T α Q e.1 e.2) (kO : ∀ b c, smS T sec i s a = .inr b → enS T b = .inr c → GP D h0 T α Q sec c) : WP X mX0_takeStatement 4 91 0 (en 4 [.ref 3, .ref (1000000 + i)]) [] h Q := by
  refine w_aload_n dX0_takeStatement_0 rfl rfl ?_
  refine w_gs (b := 12) q.1 dX0_takeStatement_1 fX0_41 (by decide) rfl rfl (by decide) ?_
  refine a_gk (k := 3) (by decide) q dX0_takeStatement_4 fX0_119 ?_
  refine w_istore_n dX0_takeStatement_7 rfl (by decide) ?_
  rw [t.2.2.1]
  refine w_aload_n dX0_takeStatement_8 rfl rfl ?_
  refine w_callC (d2 := 0) (L2 := 0) (M2 := mX5_takesOneWord) (As := []) dX0_takeStatement_9 oX5_takesOneWord lX0_140 iX5_takesOneWord sX5_takesOneWord (kO_o9 hi) rfl rfl (fun v hv => by cases hv) (by decide) (Nat.le_of_ble_eq_true rfl) (by decide) (by decide) ?_
  refine T_tow hi (fun h4 => ?_) (fun h4 => absurd h4 (by omega))
  refine k_i rfl ?_
  refine w_if_eq (tgt := 32) dX0_takeStatement_12 (by decide) (fun c_12 => absurd c_12 (by decide)) (fun c_12 => ?_)
  refine w_aload_n dX0_takeStatement_15 rfl rfl ?_
  refine a_gD q dX0_takeStatement_16 fX0_21 ?_
  refine w_iconst dX0_takeStatement_19 (v := 1) (by decide) ?_
  refine w_v1 (d2 := 0) (L2 := 0) dX0_takeStatement_20 vX0_143 (D_n q.2.2.1).1 (q.1.lt (D_n q.2.2.1).2.1) rfl (by decide) (Nat.le_of_ble_eq_true rfl) (by decide) (by decide) ?_
  refine T_room (m := 1) ar.2.2.2.1.1 ar.2.2.2.2.1.1 ar.2.2.2.2.1.2.1 ar.2.2.2.1.2 (by decide) q ?_
  cases ro9 : roS a.2.2.2.1 a.2.2.2.2.1.length 1
  · refine k_i rfl ?_
    refine w_if_ne (tgt := 32) dX0_takeStatement_23 (by decide) (fun c_23 => absurd c_23 (by decide)) (fun c_23 => ?_)
    refine w_aload_n dX0_takeStatement_26 rfl rfl ?_
    refine w_iconst dX0_takeStatement_27 (v := 4) (by decide) ?_
    refine w_iload_n dX0_takeStatement_28 rfl rfl ?_
    refine w_v2 (d2 := 0) (L2 := 0) dX0_takeStatement_29 vX0_97 rfl (q.1.lt (by decide)) rfl rfl (by decide) (Nat.le_of_ble_eq_true rfl) (by decide) (by decide) ?_
    refine T_fail f q (fun hy fy qy => ?_)
    refine k_v rfl ?_
    refine w_aload_n dX0_takeStatement_32 rfl rfl ?_
    refine w_aload_n dX0_takeStatement_33 rfl rfl ?_
    refine w_cget dX0_takeStatement_34 (kF_b9 hi) gX0_147 ?_
    refine a_p3 (k := 12) rfl fy qy dX0_takeStatement_37 fX0_150 (fun h1 f1 q1 => ?_)
    refine w_iconst dX0_takeStatement_40 (v := 0) (by decide) ?_
    refine w_istore_n dX0_takeStatement_41 rfl (by decide) ?_
    have e9 : faS α 4 (nI s) = aP (aP α 3 7 4) 3 8 (nI s) := if_pos ar.1
    rw [e9] at q1
    have y1 : (aP (aP (aP α 3 7 4) 3 8 (nI s)) 3 12 (opBase.getD i 0)).1 3 7 = 4 := (aP_k (by decide)).trans ((aP_k (by decide)).trans aP_s)
    have fe9 := kE1 (4, s) (by rw [sm_4 hi4, if_neg (by rw [ro9]; decide)])
    refine w_iload_n dX0_takeStatement_42 rfl rfl ?_
    refine w_aload_n dX0_takeStatement_43 rfl rfl ?_
    refine w_cget dX0_takeStatement_44 (kF_h9 hi) gX0_153 ?_
    refine w_callC (d2 := 1) (L2 := 20) (M2 := mJ0_length_8abf5) (As := []) dX0_takeStatement_47 oJ0_length_8abf5 lX0_157 iJ0_length_8abf5 sJ0_length_8abf5 (kO_s9 (opSh_lt i hi).1) rfl rfl (fun v hv => by cases hv) (by decide) (Nat.le_of_ble_eq_true rfl) (by decide) (by decide) ?_
    refine T_slen (opSh_lt i hi).1 ?_
    refine k_i rfl ?_
    refine w_icmp_ge (tgt := 86) dX0_takeStatement_50 (by decide) (fun c_50 => ?_) (fun c_50 => ?_)
    · refine w_aload_n dX0_takeStatement_86 rfl rfl ?_
      refine a_g3 (k := 7) rfl q1 dX0_takeStatement_87 fX0_45 ?_
      refine w_if_eq (tgt := 94) dX0_takeStatement_90 (by decide) (fun c_90 => absurd c_90 (by rw [y1]; decide)) (fun c_90 => ?_)
      refine w_vret dX0_takeStatement_93 ?_
      exact fe9 _ _ f1 q1 y1 (show ¬ (4 : Int32) = 0 from by decide) ((aP_k (by decide)).trans aP_s) ((aP_k (by decide)).trans ((aP_k (by decide)).trans (aP_k (by decide))))
    · refine w_aload_n dX0_takeStatement_53 rfl rfl ?_
      refine a_g3 (k := 7) rfl q1 dX0_takeStatement_54 fX0_45 ?_
      refine w_if_ne (tgt := 86) dX0_takeStatement_57 (by decide) (fun c_57 => ?_) (fun c_57 => absurd c_57 (by rw [y1]; decide))
      refine w_aload_n dX0_takeStatement_86 rfl rfl ?_
      refine a_g3 (k := 7) rfl q1 dX0_takeStatement_87 fX0_45 ?_
      refine w_if_eq (tgt := 94) dX0_takeStatement_90 (by decide) (fun c_90 => absurd c_90 (by rw [y1]; decide)) (fun c_90 => ?_)
      refine w_vret dX0_takeStatement_93 ?_
      exact fe9 _ _ f1 q1 y1 (show ¬ (4 : Int32) = 0 from by decide) ((aP_k (by decide)).trans aP_s) ((aP_k (by decide)).trans ((aP_k (by decide)).trans (aP_k (by decide))))
  · refine k_i rfl ?_
    refine w_if_ne (tgt := 32) dX0_takeStatement_23 (by decide) (fun c_23 => ?_) (fun c_23 => absurd c_23 (by decide))
    refine w_aload_n dX0_takeStatement_32 rfl rfl ?_
    refine w_aload_n dX0_takeStatement_33 rfl rfl ?_
    refine w_cget dX0_takeStatement_34 (kF_b9 hi) gX0_147 ?_
    refine a_p3 (k := 12) rfl f q dX0_takeStatement_37 fX0_150 (fun h1 f1 q1 => ?_)
    refine w_iconst dX0_takeStatement_40 (v := 0) (by decide) ?_
    refine w_istore_n dX0_takeStatement_41 rfl (by decide) ?_
    refine L_sh (a := a) (sec := sec) hB hi hi4 (sB (opSh.getD i 0)) 0 _ _ (uE T s) rfl (by omega) (ar.w q.2.2.1) t.1 (uE_le hs) (aP_k (by decide)) f1 q1 (fun e g => ?_) (fun r g h' α' x3 f' q' ar' w' np' hp' a6 => ?_)
    · rw [aP_s] at g
      exact kE1 e (by rw [sm_4 hi4, if_pos ro9, g])
    · rw [aP_s] at g
      have sm : smS T sec i s a = .inr (r.1, true, false, a.2.2.2.1, a.2.2.2.2.1 ++ [r.2 &&& 65535], a.2.2.2.2.2) := by rw [sm_4 hi4, if_pos ro9, g]
      have d3 : decide (i = 3) = false := decide_eq_false (by omega)
      refine L_s9 (p := r.1) (b := a.2.1) (v := a.2.2.1) (o := a.2.2.2.1) (made := a.2.2.2.2.1) (l9 := a.2.2.2.2.2) hi hi4 (AR.p (p := a.1) ar' hp') ro9 np' f' q' (fun e g2 => ?_) (fun c g2 => ?_)
      · rw [d3, w'] at g2; exact FE.p a6 (kE2 _ e sm g2)
      · rw [d3, w'] at g2; exact fun h9 α9 f9 q9 ar9 np9 s9 => kO _ c sm g2 h9 α9 f9 q9 ar9 np9 (s9.trans a6)

set_option maxRecDepth 20000 in
set_option maxHeartbeats 4000000 in
theorem T_st3 {X : Nat × (Nat → Int32)} {h0 h : PH} {Q : Option Value → PH → Prop} {T : List Int32} {α : AK} {D : Nat} {s : Nat} (hB : Byt T) (hs : s ≤ T.length) (t : TK T s α.2.2) {sec : Bool} {a : AS} (ar : AR D T sec a α) (f : Fa D h0 h) (q : RA D h T α) (kE1 : ∀ e, smS T sec 3 s a = .inl e → FE D h0 T α Q e.1 e.2) (kE2 : ∀ b e, smS T sec 3 s a = .inr b → enS T b = .inl e → FE D h0 T α Q e.1 e.2) (kO : ∀ b c, smS T sec 3 s a = .inr b → enS T b = .inr c → GP D h0 T α Q sec c) : WP X mX0_takeStatement 4 91 0 (en 4 [.ref 3, .ref (1000000 + 3)]) [] h Q := by
  have hi : 3 < 37 := by decide
  have sl : (sB (opSh.getD 3 0)).length = 0 := by decide +kernel
  refine w_aload_n dX0_takeStatement_0 rfl rfl ?_
  refine w_gs (b := 12) q.1 dX0_takeStatement_1 fX0_41 (by decide) rfl rfl (by decide) ?_
  refine a_gk (k := 3) (by decide) q dX0_takeStatement_4 fX0_119 ?_
  refine w_istore_n dX0_takeStatement_7 rfl (by decide) ?_
  rw [t.2.2.1]
  refine w_aload_n dX0_takeStatement_8 rfl rfl ?_
  refine w_callC (d2 := 0) (L2 := 0) (M2 := mX5_takesOneWord) (As := []) dX0_takeStatement_9 oX5_takesOneWord lX0_140 iX5_takesOneWord sX5_takesOneWord (kO_o9 hi) rfl rfl (fun v hv => by cases hv) (by decide) (Nat.le_of_ble_eq_true rfl) (by decide) (by decide) ?_
  refine T_tow hi (fun h4 => absurd h4 (by omega)) (fun h4 => ?_)
  refine k_i rfl ?_
  refine w_if_eq (tgt := 32) dX0_takeStatement_12 (by decide) (fun c_12 => ?_) (fun c_12 => absurd c_12 (by decide))
  refine w_aload_n dX0_takeStatement_32 rfl rfl ?_
  refine w_aload_n dX0_takeStatement_33 rfl rfl ?_
  refine w_cget dX0_takeStatement_34 (kF_b9 hi) gX0_147 ?_
  refine a_p3 (k := 12) rfl f q dX0_takeStatement_37 fX0_150 (fun h1 f1 q1 => ?_)
  refine w_iconst dX0_takeStatement_40 (v := 0) (by decide) ?_
  refine w_istore_n dX0_takeStatement_41 rfl (by decide) ?_
  refine w_iload_n dX0_takeStatement_42 rfl rfl ?_
  refine w_aload_n dX0_takeStatement_43 rfl rfl ?_
  refine w_cget dX0_takeStatement_44 (kF_h9 hi) gX0_153 ?_
  refine w_callC (d2 := 1) (L2 := 20) (M2 := mJ0_length_8abf5) (As := []) dX0_takeStatement_47 oJ0_length_8abf5 lX0_157 iJ0_length_8abf5 sJ0_length_8abf5 (kO_s9 (opSh_lt 3 hi).1) rfl rfl (fun v hv => by cases hv) (by decide) (Nat.le_of_ble_eq_true rfl) (by decide) (by decide) ?_
  refine T_slen (opSh_lt 3 hi).1 ?_
  refine k_i rfl ?_
  refine w_icmp_ge (tgt := 86) dX0_takeStatement_50 (by decide) (fun c_50 => ?_) (fun c_50 => absurd c_50 (not_not_intro (by rw [sl]; decide)))
  refine w_aload_n dX0_takeStatement_86 rfl rfl ?_
  refine a_g3 (k := 7) rfl q1 dX0_takeStatement_87 fX0_45 ?_
  refine w_if_eq (tgt := 94) dX0_takeStatement_90 (by decide) (fun c_90 => ?_) (fun c_90 => absurd c_90 (not_not_intro ((aP_k (by decide)).trans ar.1)))
  refine w_aload_n dX0_takeStatement_94 rfl rfl ?_
  refine w_callC (d2 := 0) (L2 := 0) (M2 := mX5_takesOneWord) (As := []) dX0_takeStatement_95 oX5_takesOneWord lX0_140 iX5_takesOneWord sX5_takesOneWord (kO_o9 hi) rfl rfl (fun v hv => by cases hv) (by decide) (Nat.le_of_ble_eq_true rfl) (by decide) (by decide) ?_
  refine T_tow hi (fun h4 => absurd h4 (by omega)) (fun h4 => ?_)
  refine k_i rfl ?_
  refine w_if_eq (tgt := 112) dX0_takeStatement_98 (by decide) (fun c_98 => ?_) (fun c_98 => absurd c_98 (by decide))
  have sm : smS T sec 3 s a = .inr (uE T s, true, true, a.2.2.2) := rfl
  exact L_s8 (i := 3) (b := a.2.1) (v := a.2.2.1) (o := a.2.2.2.1) (made := a.2.2.2.2.1) (l9 := a.2.2.2.2.2) hi (AR.p (p := a.1) (ar.w q.2.2.1) (uE_le hs)) t.1 f1 q1 (fun e g => FE.p (aP_k (by decide)) (kE2 _ e sm g)) (fun c g h9 α9 f9 q9 ar9 np9 s9 => kO _ c sm g h9 α9 f9 q9 ar9 np9 (s9.trans (aP_k (by decide))))

set_option maxRecDepth 20000 in
set_option maxHeartbeats 4000000 in
theorem T_st1 {X : Nat × (Nat → Int32)} {h0 h : PH} {Q : Option Value → PH → Prop} {T : List Int32} {α : AK} {D : Nat} {s : Nat} (hB : Byt T) (hs : s ≤ T.length) (t : TK T s α.2.2) {sec : Bool} {a : AS} (ar : AR D T sec a α) (f : Fa D h0 h) (q : RA D h T α) (kE1 : ∀ e, smS T sec 1 s a = .inl e → FE D h0 T α Q e.1 e.2) (kE2 : ∀ b e, smS T sec 1 s a = .inr b → enS T b = .inl e → FE D h0 T α Q e.1 e.2) (kO : ∀ b c, smS T sec 1 s a = .inr b → enS T b = .inr c → GP D h0 T α Q sec c) : WP X mX0_takeStatement 4 91 0 (en 4 [.ref 3, .ref (1000000 + 1)]) [] h Q := by
  have hi : 1 < 37 := by decide
  have sl : (sB (opSh.getD 1 0)).length = 1 := by decide +kernel
  refine w_aload_n dX0_takeStatement_0 rfl rfl ?_
  refine w_gs (b := 12) q.1 dX0_takeStatement_1 fX0_41 (by decide) rfl rfl (by decide) ?_
  refine a_gk (k := 3) (by decide) q dX0_takeStatement_4 fX0_119 ?_
  refine w_istore_n dX0_takeStatement_7 rfl (by decide) ?_
  rw [t.2.2.1]
  refine w_aload_n dX0_takeStatement_8 rfl rfl ?_
  refine w_callC (d2 := 0) (L2 := 0) (M2 := mX5_takesOneWord) (As := []) dX0_takeStatement_9 oX5_takesOneWord lX0_140 iX5_takesOneWord sX5_takesOneWord (kO_o9 hi) rfl rfl (fun v hv => by cases hv) (by decide) (Nat.le_of_ble_eq_true rfl) (by decide) (by decide) ?_
  refine T_tow hi (fun h4 => absurd h4 (by omega)) (fun h4 => ?_)
  refine k_i rfl ?_
  refine w_if_eq (tgt := 32) dX0_takeStatement_12 (by decide) (fun c_12 => ?_) (fun c_12 => absurd c_12 (by decide))
  refine w_aload_n dX0_takeStatement_32 rfl rfl ?_
  refine w_aload_n dX0_takeStatement_33 rfl rfl ?_
  refine w_cget dX0_takeStatement_34 (kF_b9 hi) gX0_147 ?_
  refine a_p3 (k := 12) rfl f q dX0_takeStatement_37 fX0_150 (fun h1 f1 q1 => ?_)
  refine w_iconst dX0_takeStatement_40 (v := 0) (by decide) ?_
  refine w_istore_n dX0_takeStatement_41 rfl (by decide) ?_
  have hu := uE_le hs
  have hx := nx_p hu
  have hu2 := uE_le hx.2
  refine w_iload_n dX0_takeStatement_42 rfl rfl ?_
  refine w_aload_n dX0_takeStatement_43 rfl rfl ?_
  refine w_cget dX0_takeStatement_44 (kF_h9 hi) gX0_153 ?_
  refine w_callC (d2 := 1) (L2 := 20) (M2 := mJ0_length_8abf5) (As := []) dX0_takeStatement_47 oJ0_length_8abf5 lX0_157 iJ0_length_8abf5 sJ0_length_8abf5 (kO_s9 (opSh_lt 1 hi).1) rfl rfl (fun v hv => by cases hv) (by decide) (Nat.le_of_ble_eq_true rfl) (by decide) (by decide) ?_
  refine T_slen (opSh_lt 1 hi).1 ?_
  refine k_i rfl ?_
  refine w_icmp_ge (tgt := 86) dX0_takeStatement_50 (by decide) (fun c_50 => absurd c_50 (by rw [sl]; decide)) (fun c_50 => ?_)
  refine w_aload_n dX0_takeStatement_53 rfl rfl ?_
  refine a_g3 (k := 7) rfl q1 dX0_takeStatement_54 fX0_45 ?_
  refine w_if_ne (tgt := 86) dX0_takeStatement_57 (by decide) (fun c_57 => absurd c_57 (not_not_intro ((aP_k (by decide)).trans ar.1))) (fun c_57 => ?_)
  refine w_aload_n dX0_takeStatement_60 rfl rfl ?_
  refine w_gs (b := 12) q1.1 dX0_takeStatement_61 fX0_41 (by decide) rfl rfl (by decide) ?_
  refine w_v0 (d2 := 3) (L2 := 70) dX0_takeStatement_64 vX0_101 rfl (q1.1.lt (by decide)) (by decide) (Nat.le_of_ble_eq_true rfl) (by decide) (by decide) ?_
  refine T_adv (p := uE T s) t.1 hu Fk.rf q1.2.1 (fun ha κa ga ra ta => ?_)
  have fa := f1.k ga
  have qa := q1.tok ga ra
  refine k_v rfl ?_
  refine w_aload_n dX0_takeStatement_67 rfl rfl ?_
  refine w_aload_n dX0_takeStatement_68 rfl rfl ?_
  refine w_cget dX0_takeStatement_69 (kF_h9 hi) gX0_153 ?_
  refine w_iload_n dX0_takeStatement_72 rfl rfl ?_
  refine w_callC (d2 := 3) (L2 := 64) (M2 := mJ0_charAt_5068e) (As := [.int (nI (0))]) dX0_takeStatement_73 oJ0_charAt_5068e lX0_161 iJ0_charAt_5068e sJ0_charAt_5068e (kO_s9 (opSh_lt 1 hi).1) rfl rfl (fun v hv => by simp only [List.mem_cons, List.not_mem_nil, or_false] at hv; rw [hv]; rfl) (Nat.le_of_ble_eq_true rfl) (Nat.le_of_ble_eq_true rfl) (by decide) (by decide) ?_
  refine T_char (i := 0) (opSh_lt 1 hi).1 (by rw [sl]; decide) ?_
  refine k_i rfl ?_
  rw [show (sB (opSh.getD 1 0)).getD 0 0 = 66 from by decide +kernel]
  have arw : AR D T sec a (aT (aP α 3 12 (opBase.getD 1 0)) κa) := ar.w (w := opBase.getD 1 0) q.2.2.1
  have w6 : (aT (aP α 3 12 (opBase.getD 1 0)) κa).1 3 6 = α.1 3 6 := aP_k (α := α) (c := 3) (k := 12) (j := 6) (v := opBase.getD 1 0) (by decide)
  refine w_iload_n dX0_takeStatement_76 rfl rfl ?_
  refine w_v2 (d2 := 3) (L2 := 69) dX0_takeStatement_77 vX0_165 rfl (qa.1.lt (by decide)) rfl rfl (by decide) (Nat.le_of_ble_eq_true rfl) (by decide) (by decide) ?_
  refine T_op66 ta arw fa qa (fun a1 hz αz fz qz y1 y2 y3 y4 => ?_) (fun a1 a2 hz αz fz qz y1 y2 y3 y4 => ?_) (fun a1 a2 a3 a4 hz αz fz qz y1 y2 y3 y4 => ?_) (fun a1 a2 a3 a4 hz αz fz qz y1 y2 y3 => ?_)
  · refine k_v rfl ?_
    refine w_iinc (v := (nI 1)) dX0_takeStatement_80 rfl rfl (by decide) ?_
    refine w_goto (tgt := 42) dX0_takeStatement_83 (by decide) ?_
    refine w_iload_n dX0_takeStatement_42 rfl rfl ?_
    refine w_aload_n dX0_takeStatement_43 rfl rfl ?_
    refine w_cget dX0_takeStatement_44 (kF_h9 hi) gX0_153 ?_
    refine w_callC (d2 := 1) (L2 := 20) (M2 := mJ0_length_8abf5) (As := []) dX0_takeStatement_47 oJ0_length_8abf5 lX0_157 iJ0_length_8abf5 sJ0_length_8abf5 (kO_s9 (opSh_lt 1 hi).1) rfl rfl (fun v hv => by cases hv) (by decide) (Nat.le_of_ble_eq_true rfl) (by decide) (by decide) ?_
    refine T_slen (opSh_lt 1 hi).1 ?_
    refine k_i rfl ?_
    refine w_icmp_ge (tgt := 86) dX0_takeStatement_50 (by decide) (fun c_50 => ?_) (fun c_50 => absurd c_50 (not_not_intro (by rw [sl]; decide)))
    refine w_aload_n dX0_takeStatement_86 rfl rfl ?_
    refine a_g3 (k := 7) rfl qz dX0_takeStatement_87 fX0_45 ?_
    refine w_if_eq (tgt := 94) dX0_takeStatement_90 (by decide) (fun c_90 => absurd c_90 (by rw [y1]; exact y2)) (fun c_90 => ?_)
    refine w_vret dX0_takeStatement_93 ?_
    exact kE1 (1, nx T (uE T s)) (by unfold smS; rw [if_neg (by decide), if_pos rfl, if_neg a1]) _ _ fz qz y1 y2 y3 (y4.trans w6)
  · refine k_v rfl ?_
    refine w_iinc (v := (nI 1)) dX0_takeStatement_80 rfl rfl (by decide) ?_
    refine w_goto (tgt := 42) dX0_takeStatement_83 (by decide) ?_
    refine w_iload_n dX0_takeStatement_42 rfl rfl ?_
    refine w_aload_n dX0_takeStatement_43 rfl rfl ?_
    refine w_cget dX0_takeStatement_44 (kF_h9 hi) gX0_153 ?_
    refine w_callC (d2 := 1) (L2 := 20) (M2 := mJ0_length_8abf5) (As := []) dX0_takeStatement_47 oJ0_length_8abf5 lX0_157 iJ0_length_8abf5 sJ0_length_8abf5 (kO_s9 (opSh_lt 1 hi).1) rfl rfl (fun v hv => by cases hv) (by decide) (Nat.le_of_ble_eq_true rfl) (by decide) (by decide) ?_
    refine T_slen (opSh_lt 1 hi).1 ?_
    refine k_i rfl ?_
    refine w_icmp_ge (tgt := 86) dX0_takeStatement_50 (by decide) (fun c_50 => ?_) (fun c_50 => absurd c_50 (not_not_intro (by rw [sl]; decide)))
    refine w_aload_n dX0_takeStatement_86 rfl rfl ?_
    refine a_g3 (k := 7) rfl qz dX0_takeStatement_87 fX0_45 ?_
    refine w_if_eq (tgt := 94) dX0_takeStatement_90 (by decide) (fun c_90 => absurd c_90 (by rw [y1]; exact y2)) (fun c_90 => ?_)
    refine w_vret dX0_takeStatement_93 ?_
    exact kE1 (2, nx T (uE T s)) (by unfold smS; rw [if_neg (by decide), if_pos rfl, if_pos a1]; exact or_ite a2) _ _ fz qz y1 y2 y3 (y4.trans w6)
  · refine k_v rfl ?_
    refine w_iinc (v := (nI 1)) dX0_takeStatement_80 rfl rfl (by decide) ?_
    refine w_goto (tgt := 42) dX0_takeStatement_83 (by decide) ?_
    refine w_iload_n dX0_takeStatement_42 rfl rfl ?_
    refine w_aload_n dX0_takeStatement_43 rfl rfl ?_
    refine w_cget dX0_takeStatement_44 (kF_h9 hi) gX0_153 ?_
    refine w_callC (d2 := 1) (L2 := 20) (M2 := mJ0_length_8abf5) (As := []) dX0_takeStatement_47 oJ0_length_8abf5 lX0_157 iJ0_length_8abf5 sJ0_length_8abf5 (kO_s9 (opSh_lt 1 hi).1) rfl rfl (fun v hv => by cases hv) (by decide) (Nat.le_of_ble_eq_true rfl) (by decide) (by decide) ?_
    refine T_slen (opSh_lt 1 hi).1 ?_
    refine k_i rfl ?_
    refine w_icmp_ge (tgt := 86) dX0_takeStatement_50 (by decide) (fun c_50 => ?_) (fun c_50 => absurd c_50 (not_not_intro (by rw [sl]; decide)))
    refine w_aload_n dX0_takeStatement_86 rfl rfl ?_
    refine a_g3 (k := 7) rfl qz dX0_takeStatement_87 fX0_45 ?_
    refine w_if_eq (tgt := 94) dX0_takeStatement_90 (by decide) (fun c_90 => absurd c_90 (by rw [y1]; exact y2)) (fun c_90 => ?_)
    refine w_vret dX0_takeStatement_93 ?_
    exact kE1 (4, s) (by unfold smS; rw [if_neg (by decide), if_pos rfl, if_pos a1, if_neg a2, if_neg a3, if_neg (by rw [a4]; decide)]) _ _ fz qz y1 y2 y3 (y4.trans w6)
  · refine k_v rfl ?_
    refine w_iinc (v := (nI 1)) dX0_takeStatement_80 rfl rfl (by decide) ?_
    refine w_goto (tgt := 42) dX0_takeStatement_83 (by decide) ?_
    refine w_iload_n dX0_takeStatement_42 rfl rfl ?_
    refine w_aload_n dX0_takeStatement_43 rfl rfl ?_
    refine w_cget dX0_takeStatement_44 (kF_h9 hi) gX0_153 ?_
    refine w_callC (d2 := 1) (L2 := 20) (M2 := mJ0_length_8abf5) (As := []) dX0_takeStatement_47 oJ0_length_8abf5 lX0_157 iJ0_length_8abf5 sJ0_length_8abf5 (kO_s9 (opSh_lt 1 hi).1) rfl rfl (fun v hv => by cases hv) (by decide) (Nat.le_of_ble_eq_true rfl) (by decide) (by decide) ?_
    refine T_slen (opSh_lt 1 hi).1 ?_
    refine k_i rfl ?_
    refine w_icmp_ge (tgt := 86) dX0_takeStatement_50 (by decide) (fun c_50 => ?_) (fun c_50 => absurd c_50 (not_not_intro (by rw [sl]; decide)))
    refine w_aload_n dX0_takeStatement_86 rfl rfl ?_
    refine a_g3 (k := 7) rfl qz dX0_takeStatement_87 fX0_45 ?_
    refine w_if_eq (tgt := 94) dX0_takeStatement_90 (by decide) (fun c_90 => ?_) (fun c_90 => absurd c_90 (not_not_intro y1.1))
    refine w_aload_n dX0_takeStatement_94 rfl rfl ?_
    refine w_callC (d2 := 0) (L2 := 0) (M2 := mX5_takesOneWord) (As := []) dX0_takeStatement_95 oX5_takesOneWord lX0_140 iX5_takesOneWord sX5_takesOneWord (kO_o9 hi) rfl rfl (fun v hv => by cases hv) (by decide) (Nat.le_of_ble_eq_true rfl) (by decide) (by decide) ?_
    refine T_tow hi (fun h4 => absurd h4 (by omega)) (fun h4 => ?_)
    refine k_i rfl ?_
    refine w_if_eq (tgt := 112) dX0_takeStatement_98 (by decide) (fun c_98 => ?_) (fun c_98 => absurd c_98 (by decide))
    have sm : smS T sec 1 s a = .inr (uE T (nx T (uE T s)), true, false, a.2.2.2.1, a.2.2.2.2.1 ++ List.replicate (uV T (nx T (uE T s))).toNatClampNeg 0, a.2.2.2.2.2) := by unfold smS; rw [if_neg (by decide), if_pos rfl, if_pos a1, if_neg a2, if_neg a3, if_pos a4]
    have d3 : decide (1 = 3) = false := rfl
    have np9 : αz.2.2.1 1 = nI (uE T (nx T (uE T s))) := by rw [y2]; exact ta.1
    exact L_s8 (i := 1) (b := a.2.1) (v := a.2.2.1) (o := a.2.2.2.1) (made := a.2.2.2.2.1 ++ List.replicate (uV T (nx T (uE T s))).toNatClampNeg 0) (l9 := a.2.2.2.2.2) hi (AR.p (p := a.1) y1 hu2) np9 fz qz (fun e g => FE.p (y3.trans w6) (kE2 _ e sm g)) (fun c g h9 α9 f9 q9 ar9 np9 s9 => kO _ c sm g h9 α9 f9 q9 ar9 np9 (s9.trans (y3.trans w6)))

set_option maxRecDepth 20000 in
set_option maxHeartbeats 4000000 in
theorem T_st2 {X : Nat × (Nat → Int32)} {h0 h : PH} {Q : Option Value → PH → Prop} {T : List Int32} {α : AK} {D : Nat} {s : Nat} (hB : Byt T) (hs : s ≤ T.length) (t : TK T s α.2.2) {sec : Bool} {a : AS} (ar : AR D T sec a α) (f : Fa D h0 h) (q : RA D h T α) (kE1 : ∀ e, smS T sec 2 s a = .inl e → FE D h0 T α Q e.1 e.2) (kE2 : ∀ b e, smS T sec 2 s a = .inr b → enS T b = .inl e → FE D h0 T α Q e.1 e.2) (kO : ∀ b c, smS T sec 2 s a = .inr b → enS T b = .inr c → GP D h0 T α Q sec c) : WP X mX0_takeStatement 4 91 0 (en 4 [.ref 3, .ref (1000000 + 2)]) [] h Q := by
  have hi : 2 < 37 := by decide
  have sl : (sB (opSh.getD 2 0)).length = 1 := by decide +kernel
  refine w_aload_n dX0_takeStatement_0 rfl rfl ?_
  refine w_gs (b := 12) q.1 dX0_takeStatement_1 fX0_41 (by decide) rfl rfl (by decide) ?_
  refine a_gk (k := 3) (by decide) q dX0_takeStatement_4 fX0_119 ?_
  refine w_istore_n dX0_takeStatement_7 rfl (by decide) ?_
  rw [t.2.2.1]
  refine w_aload_n dX0_takeStatement_8 rfl rfl ?_
  refine w_callC (d2 := 0) (L2 := 0) (M2 := mX5_takesOneWord) (As := []) dX0_takeStatement_9 oX5_takesOneWord lX0_140 iX5_takesOneWord sX5_takesOneWord (kO_o9 hi) rfl rfl (fun v hv => by cases hv) (by decide) (Nat.le_of_ble_eq_true rfl) (by decide) (by decide) ?_
  refine T_tow hi (fun h4 => absurd h4 (by omega)) (fun h4 => ?_)
  refine k_i rfl ?_
  refine w_if_eq (tgt := 32) dX0_takeStatement_12 (by decide) (fun c_12 => ?_) (fun c_12 => absurd c_12 (by decide))
  refine w_aload_n dX0_takeStatement_32 rfl rfl ?_
  refine w_aload_n dX0_takeStatement_33 rfl rfl ?_
  refine w_cget dX0_takeStatement_34 (kF_b9 hi) gX0_147 ?_
  refine a_p3 (k := 12) rfl f q dX0_takeStatement_37 fX0_150 (fun h1 f1 q1 => ?_)
  refine w_iconst dX0_takeStatement_40 (v := 0) (by decide) ?_
  refine w_istore_n dX0_takeStatement_41 rfl (by decide) ?_
  have hu := uE_le hs
  have hx := nx_p hu
  have hu2 := uE_le hx.2
  refine w_iload_n dX0_takeStatement_42 rfl rfl ?_
  refine w_aload_n dX0_takeStatement_43 rfl rfl ?_
  refine w_cget dX0_takeStatement_44 (kF_h9 hi) gX0_153 ?_
  refine w_callC (d2 := 1) (L2 := 20) (M2 := mJ0_length_8abf5) (As := []) dX0_takeStatement_47 oJ0_length_8abf5 lX0_157 iJ0_length_8abf5 sJ0_length_8abf5 (kO_s9 (opSh_lt 2 hi).1) rfl rfl (fun v hv => by cases hv) (by decide) (Nat.le_of_ble_eq_true rfl) (by decide) (by decide) ?_
  refine T_slen (opSh_lt 2 hi).1 ?_
  refine k_i rfl ?_
  refine w_icmp_ge (tgt := 86) dX0_takeStatement_50 (by decide) (fun c_50 => absurd c_50 (by rw [sl]; decide)) (fun c_50 => ?_)
  refine w_aload_n dX0_takeStatement_53 rfl rfl ?_
  refine a_g3 (k := 7) rfl q1 dX0_takeStatement_54 fX0_45 ?_
  refine w_if_ne (tgt := 86) dX0_takeStatement_57 (by decide) (fun c_57 => absurd c_57 (not_not_intro ((aP_k (by decide)).trans ar.1))) (fun c_57 => ?_)
  refine w_aload_n dX0_takeStatement_60 rfl rfl ?_
  refine w_gs (b := 12) q1.1 dX0_takeStatement_61 fX0_41 (by decide) rfl rfl (by decide) ?_
  refine w_v0 (d2 := 3) (L2 := 70) dX0_takeStatement_64 vX0_101 rfl (q1.1.lt (by decide)) (by decide) (Nat.le_of_ble_eq_true rfl) (by decide) (by decide) ?_
  refine T_adv (p := uE T s) t.1 hu Fk.rf q1.2.1 (fun ha κa ga ra ta => ?_)
  have fa := f1.k ga
  have qa := q1.tok ga ra
  refine k_v rfl ?_
  refine w_aload_n dX0_takeStatement_67 rfl rfl ?_
  refine w_aload_n dX0_takeStatement_68 rfl rfl ?_
  refine w_cget dX0_takeStatement_69 (kF_h9 hi) gX0_153 ?_
  refine w_iload_n dX0_takeStatement_72 rfl rfl ?_
  refine w_callC (d2 := 3) (L2 := 64) (M2 := mJ0_charAt_5068e) (As := [.int (nI (0))]) dX0_takeStatement_73 oJ0_charAt_5068e lX0_161 iJ0_charAt_5068e sJ0_charAt_5068e (kO_s9 (opSh_lt 2 hi).1) rfl rfl (fun v hv => by simp only [List.mem_cons, List.not_mem_nil, or_false] at hv; rw [hv]; rfl) (Nat.le_of_ble_eq_true rfl) (Nat.le_of_ble_eq_true rfl) (by decide) (by decide) ?_
  refine T_char (i := 0) (opSh_lt 2 hi).1 (by rw [sl]; decide) ?_
  refine k_i rfl ?_
  rw [show (sB (opSh.getD 2 0)).getD 0 0 = 84 from by decide +kernel]
  have arw : AR D T sec a (aT (aP α 3 12 (opBase.getD 2 0)) κa) := ar.w (w := opBase.getD 2 0) q.2.2.1
  have w6 : (aT (aP α 3 12 (opBase.getD 2 0)) κa).1 3 6 = α.1 3 6 := aP_k (α := α) (c := 3) (k := 12) (j := 6) (v := opBase.getD 2 0) (by decide)
  refine w_iload_n dX0_takeStatement_76 rfl rfl ?_
  refine w_v2 (d2 := 3) (L2 := 69) dX0_takeStatement_77 vX0_165 rfl (qa.1.lt (by decide)) rfl rfl (by decide) (Nat.le_of_ble_eq_true rfl) (by decide) (by decide) ?_
  refine T_op84 ta arw fa qa (fun a1 hz αz fz qz y1 y2 y3 y4 => ?_) (fun a1 a2 hz αz fz qz y1 y2 y3 y4 => ?_) (fun a1 a2 hz αz fz qz y1 y2 y3 => ?_)
  · refine k_v rfl ?_
    refine w_iinc (v := (nI 1)) dX0_takeStatement_80 rfl rfl (by decide) ?_
    refine w_goto (tgt := 42) dX0_takeStatement_83 (by decide) ?_
    refine w_iload_n dX0_takeStatement_42 rfl rfl ?_
    refine w_aload_n dX0_takeStatement_43 rfl rfl ?_
    refine w_cget dX0_takeStatement_44 (kF_h9 hi) gX0_153 ?_
    refine w_callC (d2 := 1) (L2 := 20) (M2 := mJ0_length_8abf5) (As := []) dX0_takeStatement_47 oJ0_length_8abf5 lX0_157 iJ0_length_8abf5 sJ0_length_8abf5 (kO_s9 (opSh_lt 2 hi).1) rfl rfl (fun v hv => by cases hv) (by decide) (Nat.le_of_ble_eq_true rfl) (by decide) (by decide) ?_
    refine T_slen (opSh_lt 2 hi).1 ?_
    refine k_i rfl ?_
    refine w_icmp_ge (tgt := 86) dX0_takeStatement_50 (by decide) (fun c_50 => ?_) (fun c_50 => absurd c_50 (not_not_intro (by rw [sl]; decide)))
    refine w_aload_n dX0_takeStatement_86 rfl rfl ?_
    refine a_g3 (k := 7) rfl qz dX0_takeStatement_87 fX0_45 ?_
    refine w_if_eq (tgt := 94) dX0_takeStatement_90 (by decide) (fun c_90 => absurd c_90 (by rw [y1]; exact y2)) (fun c_90 => ?_)
    refine w_vret dX0_takeStatement_93 ?_
    exact kE1 (1, nx T (uE T s)) (by unfold smS; rw [if_neg (by decide), if_neg (by decide), if_pos rfl, if_neg a1]) _ _ fz qz y1 y2 y3 (y4.trans w6)
  · refine k_v rfl ?_
    refine w_iinc (v := (nI 1)) dX0_takeStatement_80 rfl rfl (by decide) ?_
    refine w_goto (tgt := 42) dX0_takeStatement_83 (by decide) ?_
    refine w_iload_n dX0_takeStatement_42 rfl rfl ?_
    refine w_aload_n dX0_takeStatement_43 rfl rfl ?_
    refine w_cget dX0_takeStatement_44 (kF_h9 hi) gX0_153 ?_
    refine w_callC (d2 := 1) (L2 := 20) (M2 := mJ0_length_8abf5) (As := []) dX0_takeStatement_47 oJ0_length_8abf5 lX0_157 iJ0_length_8abf5 sJ0_length_8abf5 (kO_s9 (opSh_lt 2 hi).1) rfl rfl (fun v hv => by cases hv) (by decide) (Nat.le_of_ble_eq_true rfl) (by decide) (by decide) ?_
    refine T_slen (opSh_lt 2 hi).1 ?_
    refine k_i rfl ?_
    refine w_icmp_ge (tgt := 86) dX0_takeStatement_50 (by decide) (fun c_50 => ?_) (fun c_50 => absurd c_50 (not_not_intro (by rw [sl]; decide)))
    refine w_aload_n dX0_takeStatement_86 rfl rfl ?_
    refine a_g3 (k := 7) rfl qz dX0_takeStatement_87 fX0_45 ?_
    refine w_if_eq (tgt := 94) dX0_takeStatement_90 (by decide) (fun c_90 => absurd c_90 (by rw [y1]; exact y2)) (fun c_90 => ?_)
    refine w_vret dX0_takeStatement_93 ?_
    exact kE1 (4, s) (by unfold smS; rw [if_neg (by decide), if_neg (by decide), if_pos rfl, if_pos a1, if_neg (by rw [a2]; decide)]) _ _ fz qz y1 y2 y3 (y4.trans w6)
  · refine k_v rfl ?_
    refine w_iinc (v := (nI 1)) dX0_takeStatement_80 rfl rfl (by decide) ?_
    refine w_goto (tgt := 42) dX0_takeStatement_83 (by decide) ?_
    refine w_iload_n dX0_takeStatement_42 rfl rfl ?_
    refine w_aload_n dX0_takeStatement_43 rfl rfl ?_
    refine w_cget dX0_takeStatement_44 (kF_h9 hi) gX0_153 ?_
    refine w_callC (d2 := 1) (L2 := 20) (M2 := mJ0_length_8abf5) (As := []) dX0_takeStatement_47 oJ0_length_8abf5 lX0_157 iJ0_length_8abf5 sJ0_length_8abf5 (kO_s9 (opSh_lt 2 hi).1) rfl rfl (fun v hv => by cases hv) (by decide) (Nat.le_of_ble_eq_true rfl) (by decide) (by decide) ?_
    refine T_slen (opSh_lt 2 hi).1 ?_
    refine k_i rfl ?_
    refine w_icmp_ge (tgt := 86) dX0_takeStatement_50 (by decide) (fun c_50 => ?_) (fun c_50 => absurd c_50 (not_not_intro (by rw [sl]; decide)))
    refine w_aload_n dX0_takeStatement_86 rfl rfl ?_
    refine a_g3 (k := 7) rfl qz dX0_takeStatement_87 fX0_45 ?_
    refine w_if_eq (tgt := 94) dX0_takeStatement_90 (by decide) (fun c_90 => ?_) (fun c_90 => absurd c_90 (not_not_intro y1.1))
    refine w_aload_n dX0_takeStatement_94 rfl rfl ?_
    refine w_callC (d2 := 0) (L2 := 0) (M2 := mX5_takesOneWord) (As := []) dX0_takeStatement_95 oX5_takesOneWord lX0_140 iX5_takesOneWord sX5_takesOneWord (kO_o9 hi) rfl rfl (fun v hv => by cases hv) (by decide) (Nat.le_of_ble_eq_true rfl) (by decide) (by decide) ?_
    refine T_tow hi (fun h4 => absurd h4 (by omega)) (fun h4 => ?_)
    refine k_i rfl ?_
    refine w_if_eq (tgt := 112) dX0_takeStatement_98 (by decide) (fun c_98 => ?_) (fun c_98 => absurd c_98 (by decide))
    have sm : smS T sec 2 s a = .inr (uE T (nx T (uE T s)), true, false, a.2.2.2.1, a.2.2.2.2.1 ++ (uX T (nx T (uE T s))).map (fun b => b &&& 65535) ++ [0], a.2.2.2.2.2) := by unfold smS; rw [if_neg (by decide), if_neg (by decide), if_pos rfl, if_pos a1, if_pos a2]
    have d3 : decide (2 = 3) = false := rfl
    have np9 : αz.2.2.1 1 = nI (uE T (nx T (uE T s))) := by rw [y2]; exact ta.1
    exact L_s8 (i := 2) (b := a.2.1) (v := a.2.2.1) (o := a.2.2.2.1) (made := a.2.2.2.2.1 ++ (uX T (nx T (uE T s))).map (fun b => b &&& 65535) ++ [0]) (l9 := a.2.2.2.2.2) hi (AR.p (p := a.1) y1 hu2) np9 fz qz (fun e g => FE.p (y3.trans w6) (kE2 _ e sm g)) (fun c g h9 α9 f9 q9 ar9 np9 s9 => kO _ c sm g h9 α9 f9 q9 ar9 np9 (s9.trans (y3.trans w6)))

set_option maxRecDepth 20000 in
set_option maxHeartbeats 4000000 in
theorem T_st0 {X : Nat × (Nat → Int32)} {h0 h : PH} {Q : Option Value → PH → Prop} {T : List Int32} {α : AK} {D : Nat} {s : Nat} (hB : Byt T) (hs : s ≤ T.length) (t : TK T s α.2.2) {sec : Bool} {a : AS} (ar : AR D T sec a α) (hm : a.2.2.2.2.1 = []) (f : Fa D h0 h) (q : RA D h T α) (kE1 : ∀ e, smS T sec 0 s a = .inl e → FE D h0 T α Q e.1 e.2) (kE2 : ∀ b e, smS T sec 0 s a = .inr b → enS T b = .inl e → FE D h0 T α Q e.1 e.2) (kO : ∀ b c, smS T sec 0 s a = .inr b → enS T b = .inr c → GP D h0 T α Q sec c) : WP X mX0_takeStatement 4 91 0 (en 4 [.ref 3, .ref (1000000 + 0)]) [] h Q := by
  have hi : 0 < 37 := by decide
  have sl : (sB (opSh.getD 0 0)).length = 1 := by decide +kernel
  refine w_aload_n dX0_takeStatement_0 rfl rfl ?_
  refine w_gs (b := 12) q.1 dX0_takeStatement_1 fX0_41 (by decide) rfl rfl (by decide) ?_
  refine a_gk (k := 3) (by decide) q dX0_takeStatement_4 fX0_119 ?_
  refine w_istore_n dX0_takeStatement_7 rfl (by decide) ?_
  rw [t.2.2.1]
  refine w_aload_n dX0_takeStatement_8 rfl rfl ?_
  refine w_callC (d2 := 0) (L2 := 0) (M2 := mX5_takesOneWord) (As := []) dX0_takeStatement_9 oX5_takesOneWord lX0_140 iX5_takesOneWord sX5_takesOneWord (kO_o9 hi) rfl rfl (fun v hv => by cases hv) (by decide) (Nat.le_of_ble_eq_true rfl) (by decide) (by decide) ?_
  refine T_tow hi (fun h4 => absurd h4 (by omega)) (fun h4 => ?_)
  refine k_i rfl ?_
  refine w_if_eq (tgt := 32) dX0_takeStatement_12 (by decide) (fun c_12 => ?_) (fun c_12 => absurd c_12 (by decide))
  refine w_aload_n dX0_takeStatement_32 rfl rfl ?_
  refine w_aload_n dX0_takeStatement_33 rfl rfl ?_
  refine w_cget dX0_takeStatement_34 (kF_b9 hi) gX0_147 ?_
  refine a_p3 (k := 12) rfl f q dX0_takeStatement_37 fX0_150 (fun h1 f1 q1 => ?_)
  refine w_iconst dX0_takeStatement_40 (v := 0) (by decide) ?_
  refine w_istore_n dX0_takeStatement_41 rfl (by decide) ?_
  have n3 : (3 : Nat) ≠ D := Ne.symm (D_n q.2.2.1).2.2.2.2.2.2.2.2.2.1
  have hu := uE_le hs
  have hx := nx_p hu
  have hu2 := uE_le hx.2
  refine w_iload_n dX0_takeStatement_42 rfl rfl ?_
  refine w_aload_n dX0_takeStatement_43 rfl rfl ?_
  refine w_cget dX0_takeStatement_44 (kF_h9 hi) gX0_153 ?_
  refine w_callC (d2 := 1) (L2 := 20) (M2 := mJ0_length_8abf5) (As := []) dX0_takeStatement_47 oJ0_length_8abf5 lX0_157 iJ0_length_8abf5 sJ0_length_8abf5 (kO_s9 (opSh_lt 0 hi).1) rfl rfl (fun v hv => by cases hv) (by decide) (Nat.le_of_ble_eq_true rfl) (by decide) (by decide) ?_
  refine T_slen (opSh_lt 0 hi).1 ?_
  refine k_i rfl ?_
  refine w_icmp_ge (tgt := 86) dX0_takeStatement_50 (by decide) (fun c_50 => absurd c_50 (by rw [sl]; decide)) (fun c_50 => ?_)
  refine w_aload_n dX0_takeStatement_53 rfl rfl ?_
  refine a_g3 (k := 7) rfl q1 dX0_takeStatement_54 fX0_45 ?_
  refine w_if_ne (tgt := 86) dX0_takeStatement_57 (by decide) (fun c_57 => absurd c_57 (not_not_intro ((aP_k (by decide)).trans ar.1))) (fun c_57 => ?_)
  refine w_aload_n dX0_takeStatement_60 rfl rfl ?_
  refine w_gs (b := 12) q1.1 dX0_takeStatement_61 fX0_41 (by decide) rfl rfl (by decide) ?_
  refine w_v0 (d2 := 3) (L2 := 70) dX0_takeStatement_64 vX0_101 rfl (q1.1.lt (by decide)) (by decide) (Nat.le_of_ble_eq_true rfl) (by decide) (by decide) ?_
  refine T_adv (p := uE T s) t.1 hu Fk.rf q1.2.1 (fun ha κa ga ra ta => ?_)
  have fa := f1.k ga
  have qa := q1.tok ga ra
  refine k_v rfl ?_
  refine w_aload_n dX0_takeStatement_67 rfl rfl ?_
  refine w_aload_n dX0_takeStatement_68 rfl rfl ?_
  refine w_cget dX0_takeStatement_69 (kF_h9 hi) gX0_153 ?_
  refine w_iload_n dX0_takeStatement_72 rfl rfl ?_
  refine w_callC (d2 := 3) (L2 := 64) (M2 := mJ0_charAt_5068e) (As := [.int (nI (0))]) dX0_takeStatement_73 oJ0_charAt_5068e lX0_161 iJ0_charAt_5068e sJ0_charAt_5068e (kO_s9 (opSh_lt 0 hi).1) rfl rfl (fun v hv => by simp only [List.mem_cons, List.not_mem_nil, or_false] at hv; rw [hv]; rfl) (Nat.le_of_ble_eq_true rfl) (Nat.le_of_ble_eq_true rfl) (by decide) (by decide) ?_
  refine T_char (i := 0) (opSh_lt 0 hi).1 (by rw [sl]; decide) ?_
  refine k_i rfl ?_
  rw [show (sB (opSh.getD 0 0)).getD 0 0 = 71 from by decide +kernel]
  have arw : AR D T sec a (aT (aP α 3 12 (opBase.getD 0 0)) κa) := ar.w (w := opBase.getD 0 0) q.2.2.1
  have w6 : (aT (aP α 3 12 (opBase.getD 0 0)) κa).1 3 6 = α.1 3 6 := aP_k (α := α) (c := 3) (k := 12) (j := 6) (v := opBase.getD 0 0) (by decide)
  refine w_iload_n dX0_takeStatement_76 rfl rfl ?_
  refine w_v2 (d2 := 3) (L2 := 69) dX0_takeStatement_77 vX0_165 rfl (qa.1.lt (by decide)) rfl rfl (by decide) (Nat.le_of_ble_eq_true rfl) (by decide) (by decide) ?_
  refine T_op71 ta arw.1 fa qa (fun e e9 hz αz fz qz y1 y2 y3 y4 => ?_) (fun w e9 hz fz qz => ?_)
  · refine k_v rfl ?_
    refine w_iinc (v := (nI 1)) dX0_takeStatement_80 rfl rfl (by decide) ?_
    refine w_goto (tgt := 42) dX0_takeStatement_83 (by decide) ?_
    refine w_iload_n dX0_takeStatement_42 rfl rfl ?_
    refine w_aload_n dX0_takeStatement_43 rfl rfl ?_
    refine w_cget dX0_takeStatement_44 (kF_h9 hi) gX0_153 ?_
    refine w_callC (d2 := 1) (L2 := 20) (M2 := mJ0_length_8abf5) (As := []) dX0_takeStatement_47 oJ0_length_8abf5 lX0_157 iJ0_length_8abf5 sJ0_length_8abf5 (kO_s9 (opSh_lt 0 hi).1) rfl rfl (fun v hv => by cases hv) (by decide) (Nat.le_of_ble_eq_true rfl) (by decide) (by decide) ?_
    refine T_slen (opSh_lt 0 hi).1 ?_
    refine k_i rfl ?_
    refine w_icmp_ge (tgt := 86) dX0_takeStatement_50 (by decide) (fun c_50 => ?_) (fun c_50 => absurd c_50 (not_not_intro (by rw [sl]; decide)))
    refine w_aload_n dX0_takeStatement_86 rfl rfl ?_
    refine a_g3 (k := 7) rfl qz dX0_takeStatement_87 fX0_45 ?_
    refine w_if_eq (tgt := 94) dX0_takeStatement_90 (by decide) (fun c_90 => absurd c_90 (by rw [y1]; exact y2)) (fun c_90 => ?_)
    refine w_vret dX0_takeStatement_93 ?_
    refine (?_ : Q none hz)
    unfold nuS at e9
    by_cases c2 : uC T (nx T (uE T s)) = 2
    · rw [if_pos c2] at e9
      by_cases c5 : uV T (nx T (uE T s)) < 0
      · rw [if_pos c5] at e9; cases e9; exact kE1 (2, nx T (uE T s)) (by unfold smS; rw [if_pos rfl, if_pos c2, if_pos c5]) _ _ fz qz y1 y2 y3 (y4.trans w6)
      · rw [if_neg c5] at e9
        by_cases c6 : 65535 < uV T (nx T (uE T s))
        · rw [if_pos c6] at e9; cases e9; exact kE1 (2, nx T (uE T s)) (by unfold smS; rw [if_pos rfl, if_pos c2, if_neg c5, if_pos c6]) _ _ fz qz y1 y2 y3 (y4.trans w6)
        · rw [if_neg c6] at e9; cases e9
    · rw [if_neg c2] at e9; cases e9; exact kE1 (1, nx T (uE T s)) (by unfold smS; rw [if_pos rfl, if_neg c2]) _ _ fz qz y1 y2 y3 (y4.trans w6)
  · refine k_v rfl ?_
    refine w_iinc (v := (nI 1)) dX0_takeStatement_80 rfl rfl (by decide) ?_
    refine w_goto (tgt := 42) dX0_takeStatement_83 (by decide) ?_
    refine w_iload_n dX0_takeStatement_42 rfl rfl ?_
    refine w_aload_n dX0_takeStatement_43 rfl rfl ?_
    refine w_cget dX0_takeStatement_44 (kF_h9 hi) gX0_153 ?_
    refine w_callC (d2 := 1) (L2 := 20) (M2 := mJ0_length_8abf5) (As := []) dX0_takeStatement_47 oJ0_length_8abf5 lX0_157 iJ0_length_8abf5 sJ0_length_8abf5 (kO_s9 (opSh_lt 0 hi).1) rfl rfl (fun v hv => by cases hv) (by decide) (Nat.le_of_ble_eq_true rfl) (by decide) (by decide) ?_
    refine T_slen (opSh_lt 0 hi).1 ?_
    refine k_i rfl ?_
    refine w_icmp_ge (tgt := 86) dX0_takeStatement_50 (by decide) (fun c_50 => ?_) (fun c_50 => absurd c_50 (not_not_intro (by rw [sl]; decide)))
    refine w_aload_n dX0_takeStatement_86 rfl rfl ?_
    refine a_g3 (k := 7) rfl qz dX0_takeStatement_87 fX0_45 ?_
    refine w_if_eq (tgt := 94) dX0_takeStatement_90 (by decide) (fun c_90 => ?_) (fun c_90 => absurd c_90 (not_not_intro ((aP_c n3).trans ((aP_k (by decide)).trans arw.1))))
    refine w_aload_n dX0_takeStatement_94 rfl rfl ?_
    refine w_callC (d2 := 0) (L2 := 0) (M2 := mX5_takesOneWord) (As := []) dX0_takeStatement_95 oX5_takesOneWord lX0_140 iX5_takesOneWord sX5_takesOneWord (kO_o9 hi) rfl rfl (fun v hv => by cases hv) (by decide) (Nat.le_of_ble_eq_true rfl) (by decide) (by decide) ?_
    refine T_tow hi (fun h4 => absurd h4 (by omega)) (fun h4 => ?_)
    refine k_i rfl ?_
    refine w_if_eq (tgt := 112) dX0_takeStatement_98 (by decide) (fun c_98 => ?_) (fun c_98 => absurd c_98 (by decide))
    have c2 : uC T (nx T (uE T s)) = 2 := by
      unfold nuS at e9
      split at e9
      · assumption
      · cases e9
    have c3 : ¬ uV T (nx T (uE T s)) < 0 ∧ ¬ 65535 < uV T (nx T (uE T s)) := by
      unfold nuS at e9
      rw [if_pos c2] at e9
      split at e9
      · cases e9
      split at e9
      · cases e9
      exact ⟨by assumption, by assumption⟩
    obtain ⟨u, hu9, eu⟩ := nI_of2 (M := 65535) (n := 65535) rfl c3.1 (Int32.not_lt.mp c3.2)
    have ku : (uV T (nx T (uE T s))).toNatClampNeg = u := by rw [eu]; exact nI_clamp (by omega)
    have sm : smS T sec 0 s a = .inr (uE T (nx T (uE T s)), true, false, u, a.2.2.2.2.1, a.2.2.2.2.2) := by unfold smS; rw [if_pos rfl, if_pos c2, if_neg c3.1, if_neg c3.2, ku]
    rw [eu] at qz
    have arz : AR D T sec (a.1, a.2.1, a.2.2.1, u, a.2.2.2.2.1, a.2.2.2.2.2) (aP (aP (aT (aP α 3 12 (opBase.getD 0 0)) κa) 3 12 w) D 4 (nI u)) := (arw.w q.2.2.1).og q.2.2.1 hu9 (by rw [hm]; simp only [List.length_nil]; omega)
    exact L_s8 (i := 0) (b := a.2.1) (v := a.2.2.1) (o := u) (made := a.2.2.2.2.1) (l9 := a.2.2.2.2.2) hi (AR.p (p := a.1) arz hu2) ta.1 fz qz (fun e g => FE.p ((aP_c n3).trans ((aP_k (by decide)).trans w6)) (kE2 _ e sm g)) (fun c g h9 α9 f9 q9 ar9 np9 s9 => kO _ c sm g h9 α9 f9 q9 ar9 np9 (s9.trans ((aP_c n3).trans ((aP_k (by decide)).trans w6))))

