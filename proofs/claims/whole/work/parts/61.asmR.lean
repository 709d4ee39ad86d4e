/-! THE REFERENCE's ASSEMBLER: LINES, passes -/
theorem nm_30 : ∀ j, j < 37 → (nmO.getD j 0 = 30 ↔ j = 0) ∧ (j = 0 ∨ j = 1 ∨ j = 2 ∨ j = 3 ∨ j = 36 ∨ nmO.getD j 0 < 30) := by decide +kernel
theorem uO_no {T : List Int32} (hB : Byt T) {s j : Nat} (hs : s ≤ T.length) (h : uO T s = some j) : opN.getD (nmO.getD j 0) 0 = j ∧ j < 37 := by
  rw [uO_e hB hs] at h
  cases e : nmF T s (wd1 T s - s) with
  | none => rw [e] at h; cases h
  | some k =>
    rw [e] at h
    have hk := (nmF_p e).1
    have ej : opN.getD k 0 = j := Option.some.inj h
    rw [← ej, nm_o k hk]; exact ⟨rfl, (nm_b k hk).2.2.2.1⟩
theorem MA.bg {T : List Int32} {sec : Bool} {a : AS} {ψ : Nat → Nat → Int32} {p u : Nat} (h : MA T sec a ψ) (hm : a.2.2.2.2.1 = []) (ov : a.2.2.1 = false) (hu : u ≤ 65535) (hp : p ≤ T.length) : MA T sec (p, true, false, u, a.2.2.2.2.1, a.2.2.2.2.2) (uP (uP (uP ψ 25 32 (nI u)) 25 48 (nI u)) 25 49 1) := by
  obtain ⟨a1, a2, a3, a4, a5, a6, a7, a8, a9⟩ := h
  have c25 : ∀ k, k ≠ 32 → k ≠ 48 → k ≠ 49 → uP (uP (uP ψ 25 32 (nI u)) 25 48 (nI u)) 25 49 1 25 k = ψ 25 k := fun k g1 g2 g3 => (uP_k g3).trans ((uP_k g2).trans (uP_k g1))
  have cc : ∀ c k, c ≠ 25 → uP (uP (uP ψ 25 32 (nI u)) 25 48 (nI u)) 25 49 1 c k = ψ c k := fun c k g => (uP_c g).trans ((uP_c g).trans (uP_c g))
  have l0 : a.2.2.2.2.1.length = 0 := by rw [hm]; rfl
  refine ⟨(c25 47 (by decide) (by decide) (by decide)).trans a1, ⟨uP_s, ?_⟩, ⟨(c25 31 (by decide) (by decide) (by decide)).trans a3.1, a3.2⟩, fun _ => ⟨?_, (uP_k (by decide)).trans ((uP_k (by decide)).trans uP_s)⟩, ⟨hu, ?_⟩, fun hs i v hv => (cc 33 i (by decide)).trans (a6 hs i v hv), ⟨(c25 36 (by decide) (by decide) (by decide)).trans a7.1, a7.2.1, fun i hi => ⟨(cc 34 i (by decide)).trans (a7.2.2 i hi).1, (cc 35 i (by decide)).trans (a7.2.2 i hi).2.1, (cc 36 i (by decide)).trans (a7.2.2 i hi).2.2.1, (a7.2.2 i hi).2.2.2⟩⟩, ⟨(c25 28 (by decide) (by decide) (by decide)).trans a8.1, (c25 29 (by decide) (by decide) (by decide)).trans a8.2⟩, hp⟩
  · rw [c25 50 (by decide) (by decide) (by decide), a2.2, ov]
  · show uP (uP (uP ψ 25 32 (nI u)) 25 48 (nI u)) 25 49 1 25 48 = nI (u + a.2.2.2.2.1.length)
    rw [l0]; exact (uP_k (by decide)).trans uP_s
  · show u + a.2.2.2.2.1.length ≤ 65536
    omega
set_option maxRecDepth 20000 in
set_option maxHeartbeats 4000000 in
theorem L_ebegins {X : Nat × (Nat → Int32)} {h0 h : PH} {Q : Option Value → PH → Prop} {T : List Int32} {ψ : Nat → Nat → Int32} {sec : Bool} {b : AS} (hB : Byt T) (ma : MA T sec b ψ) (np : ψ 25 40 = nI b.1) (f : Fu h0 h) (q : RU h T ψ) (kF : ∀ e, enS T b = .inl e → RF h0 T ψ Q e.1 e.2) (kG : ∀ c, enS T b = .inr c → RP h0 T ψ Q sec c)  : WP X mX11_begins 5 110 77 [some (.ref 25)] [] h Q := by
  have hx := nx_p ma.2.2.2.2.2.2.2.2
  refine w_aload_n dX11_begins_77 rfl rfl ?_
  refine w_v0 (d2 := 3) (L2 := 60) dX11_begins_78 vX11_297 rfl (q.1.lt (by decide)) (by decide) (Nat.le_of_ble_eq_true rfl) (by decide) (by decide) ?_
  refine T_next hB ma.2.2.2.2.2.2.2.2 np f q (fun ha φa fa qa ua ta => ?_)
  refine k_v rfl ?_
  refine w_aload_n dX11_begins_81 rfl rfl ?_
  refine u_get (k := 41) (by decide) qa dX11_begins_82 fX11_214 ?_
  refine w_if_eq (tgt := 95) dX11_begins_85 (by decide) (fun c_85 => ?_) (fun c_85 => ?_)
  · rw [ta.2.1, rk_z] at c_85
    refine w_iconst dX11_begins_95 (v := 1) (by decide) ?_
    refine w_goto (tgt := 100) dX11_begins_96 (by decide) ?_
    refine w_iret dX11_begins_100 (fun _ e => by cases e; decide) ?_
    exact kG _ (by unfold enS; rw [if_pos c_85]) _ _ fa qa ua.uv.ub (MA.p (p := b.1) (ma.uv ua.uv) hx.2) (by rw [ta.1, uE_end c_85])
  · rw [ta.2.1, rk_z] at c_85
    refine w_aload_n dX11_begins_88 rfl rfl ?_
    refine w_v0 (d2 := 1) (L2 := 22) dX11_begins_89 vX11_309 rfl (qa.1.lt (by decide)) (by decide) (Nat.le_of_ble_eq_true rfl) (by decide) (by decide) ?_
    refine T_wrt ta.2.2.1 fa qa (fun hz fz qz => ?_)
    · refine k_i rfl ?_
      refine w_if_eq (tgt := 99) dX11_begins_92 (by decide) (fun c_92 => ?_) (fun c_92 => absurd c_92 (by decide))
      refine w_iconst dX11_begins_99 (v := 0) (by decide) ?_
      refine w_iret dX11_begins_100 (fun _ e => by cases e; decide) ?_
      exact rf1 (kF (1, nx T b.1) (by unfold enS; rw [if_neg c_85])) ua.uv.ub _ fz qz

set_option maxRecDepth 20000 in
set_option maxHeartbeats 4000000 in
theorem L_eline {X : Nat × (Nat → Int32)} {h0 h : PH} {Q : Option Value → PH → Prop} {T : List Int32} {ψ : Nat → Nat → Int32} {sec : Bool} {b : AS} (hB : Byt T) (ma : MA T sec b ψ) (np : ψ 25 40 = nI b.1) (f : Fu h0 h) (q : RU h T ψ) (kF : ∀ e, enS T b = .inl e → RF h0 T ψ Q e.1 e.2) (kG : ∀ c, enS T b = .inr c → RP h0 T ψ Q sec c) {x1 x2 : Option Value} : WP X mX11_line 10 221 109 [some (.ref 25), x1, x2] [] h Q := by
  have hx := nx_p ma.2.2.2.2.2.2.2.2
  refine w_aload_n dX11_line_109 rfl rfl ?_
  refine w_v0 (d2 := 3) (L2 := 60) dX11_line_110 vX11_297 rfl (q.1.lt (by decide)) (by decide) (Nat.le_of_ble_eq_true rfl) (by decide) (by decide) ?_
  refine T_next hB ma.2.2.2.2.2.2.2.2 np f q (fun ha φa fa qa ua ta => ?_)
  refine k_v rfl ?_
  refine w_aload_n dX11_line_113 rfl rfl ?_
  refine u_get (k := 41) (by decide) qa dX11_line_114 fX11_214 ?_
  refine w_if_eq (tgt := 127) dX11_line_117 (by decide) (fun c_117 => ?_) (fun c_117 => ?_)
  · rw [ta.2.1, rk_z] at c_117
    refine w_iconst dX11_line_127 (v := 1) (by decide) ?_
    refine w_goto (tgt := 132) dX11_line_128 (by decide) ?_
    refine w_iret dX11_line_132 (fun _ e => by cases e; decide) ?_
    exact kG _ (by unfold enS; rw [if_pos c_117]) _ _ fa qa ua.uv.ub (MA.p (p := b.1) (ma.uv ua.uv) hx.2) (by rw [ta.1, uE_end c_117])
  · rw [ta.2.1, rk_z] at c_117
    refine w_aload_n dX11_line_120 rfl rfl ?_
    refine w_v0 (d2 := 1) (L2 := 22) dX11_line_121 vX11_309 rfl (qa.1.lt (by decide)) (by decide) (Nat.le_of_ble_eq_true rfl) (by decide) (by decide) ?_
    refine T_wrt ta.2.2.1 fa qa (fun hz fz qz => ?_)
    · refine k_i rfl ?_
      refine w_if_eq (tgt := 131) dX11_line_124 (by decide) (fun c_124 => ?_) (fun c_124 => absurd c_124 (by decide))
      refine w_iconst dX11_line_131 (v := 0) (by decide) ?_
      refine w_iret dX11_line_132 (fun _ e => by cases e; decide) ?_
      exact rf1 (kF (1, nx T b.1) (by unfold enS; rw [if_neg c_117])) ua.uv.ub _ fz qz

set_option maxRecDepth 20000 in
set_option maxHeartbeats 4000000 in
/-- begins() -/
theorem T_begins {X : Nat × (Nat → Int32)} {h0 h : PH} {Q : Option Value → PH → Prop} {T : List Int32} {ψ : Nat → Nat → Int32} {s : Nat} (hB : Byt T) (hs : s ≤ T.length) (t : RTK T s ψ) {sec : Bool} {a : AS} (ma : MA T sec a ψ) (nb : a.2.1 = false) (hm : a.2.2.2.2.1 = []) (ov : a.2.2.1 = false) (c0 : ¬ uC T s = 0) (f : Fu h0 h) (q : RU h T ψ) (kF : ∀ e, bdS T sec s a = .inl e → RF h0 T ψ Q e.1 e.2) (kG : ∀ b, bdS T sec s a = .inr b → RP h0 T ψ Q sec b) : WP X mX11_begins 5 110 0 (en 1 [.ref 25]) [] h Q := by
  refine w_aload_n dX11_begins_0 rfl rfl ?_
  refine w_v0 (d2 := 4) (L2 := 85) dX11_begins_1 vX11_252 rfl (q.1.lt (by decide)) (by decide) (Nat.le_of_ble_eq_true rfl) (by decide) (by decide) ?_
  refine T_name hB hs t q (fun d1 => ?_) (fun j d1 eo => ?_)
  · refine k_i rfl ?_
    refine w_bipush dX11_begins_4 (v := 30) (by decide) ?_
    refine w_icmp_eq (tgt := 14) dX11_begins_6 (by decide) (fun c_6 => absurd c_6 (by decide)) (fun c_6 => ?_)
    refine w_aload_n dX11_begins_9 rfl rfl ?_
    refine w_v0 (d2 := 1) (L2 := 22) dX11_begins_10 vX11_309 rfl (q.1.lt (by decide)) (by decide) (Nat.le_of_ble_eq_true rfl) (by decide) (by decide) ?_
    refine T_wrt t.2.2.1 f q (fun h1 f1 q1 => ?_)
    refine k_i rfl ?_
    refine w_iret dX11_begins_13 (fun _ e => by cases e; decide) ?_
    exact rf1 (kF (1, s) (by unfold bdS; rw [if_neg c0, if_neg (fun e => d1 e.1)])) UB.rf _ f1 q1
  · refine k_i rfl ?_
    refine w_bipush dX11_begins_4 (v := 30) (by decide) ?_
    refine w_icmp_eq (tgt := 14) dX11_begins_6 (by decide) (fun c_6 => ?_) (fun c_6 => ?_)
    · have un := uO_no hB hs eo
      have n30 := (nm_30 j un.2).1
      have nlt := nmO_lt j
      rw [show (30 : Int32) = nI 30 from rfl, nI_eq (by omega) (by decide), n30] at c_6
      have bd : bdS T sec s a = (match smS T sec 0 s a with | .inl e => .inl e | .inr b => enS T b) := by unfold bdS; rw [if_neg c0, if_pos ⟨d1, by rw [nb, eo, c_6]; decide⟩, eo, c_6]; rfl
      rw [bd] at kF kG
      refine w_aload_n dX11_begins_14 rfl rfl ?_
      refine w_v0 (d2 := 3) (L2 := 60) dX11_begins_15 vX11_297 rfl (q.1.lt (by decide)) (by decide) (Nat.le_of_ble_eq_true rfl) (by decide) (by decide) ?_
      refine T_next hB (uE_le hs) t.1 f q (fun ha φa fa qa ua ta => ?_)
      refine k_v rfl ?_
      have hx := nx_p (uE_le hs)
      refine w_aload_n dX11_begins_18 rfl rfl ?_
      refine w_v0 (d2 := 2) (L2 := 41) dX11_begins_19 vX11_246 rfl (qa.1.lt (by decide)) (by decide) (Nat.le_of_ble_eq_true rfl) (by decide) (by decide) ?_
      refine T_isNum hB hx.2 ta fa qa (fun d2 => ?_) (fun d2 hb9 fb qb => ?_)
      · refine k_i rfl ?_
        refine w_if_ne (tgt := 30) dX11_begins_22 (by decide) (fun c_22 => absurd c_22 (by decide)) (fun c_22 => ?_)
        refine w_aload_n dX11_begins_25 rfl rfl ?_
        refine w_v0 (d2 := 1) (L2 := 22) dX11_begins_26 vX11_309 rfl (qa.1.lt (by decide)) (by decide) (Nat.le_of_ble_eq_true rfl) (by decide) (by decide) ?_
        refine T_wrt ta.2.2.1 fa qa (fun h2 f2 q2 => ?_)
        refine k_i rfl ?_
        refine w_iret dX11_begins_29 (fun _ e => by cases e; decide) ?_
        exact rf1 (kF (1, (nx T (uE T s))) (by unfold smS; rw [if_pos rfl, if_neg d2])) ua.uv.ub _ f2 q2
      · refine k_i rfl ?_
        refine w_if_ne (tgt := 30) dX11_begins_22 (by decide) (fun c_22 => ?_) (fun c_22 => absurd c_22 (by decide))
        have uv9 : UV ψ (uP φa 25 44 (uV T (nx T (uE T s)))) := ua.uv.p (Or.inl (by decide))
        refine w_aload_n dX11_begins_30 rfl rfl ?_
        refine u_get (k := 44) (by decide) qb dX11_begins_31 fX11_232 ?_
        refine w_if_lt (tgt := 46) dX11_begins_34 (by decide) (fun c_34 => ?_) (fun c_34 => ?_)
        · rw [uP_s] at c_34
          refine w_aload_n dX11_begins_46 rfl rfl ?_
          refine w_iconst dX11_begins_47 (v := 2) (by decide) ?_
          refine w_aload_n dX11_begins_48 rfl rfl ?_
          refine u_get (k := 42) (by decide) qb dX11_begins_49 fX11_211 ?_
          refine w_v2 (d2 := 0) (L2 := 0) dX11_begins_52 vX11_258 rfl (qb.1.lt (by decide)) rfl rfl (by decide) (Nat.le_of_ble_eq_true rfl) (by decide) (by decide) ?_
          rw [show uP φa 25 44 (uV T (nx T (uE T s))) 25 42 = nI (nx T (uE T s)) from (uP_k (by decide)).trans ta.2.2.1]
          refine T_wrong fb qb (fun h3 f3 q3 => ?_)
          refine k_i rfl ?_
          refine w_iret dX11_begins_55 (fun _ e => by cases e; decide) ?_
          exact rf1 (kF (2, (nx T (uE T s))) (by unfold smS; rw [if_pos rfl, if_pos d2, if_pos c_34])) uv9.ub _ f3 q3
        · rw [uP_s] at c_34
          refine w_aload_n dX11_begins_37 rfl rfl ?_
          refine u_get (k := 44) (by decide) qb dX11_begins_38 fX11_232 ?_
          refine w_ldc dX11_begins_41 kX11_87 ?_
          refine w_icmp_le (tgt := 56) dX11_begins_43 (by decide) (fun c_43 => ?_) (fun c_43 => ?_)
          · rw [uP_s] at c_43
            obtain ⟨u, hu, eu⟩ := nI_of2 (M := 65535) (n := 65535) rfl c_34 c_43
            have ku : (uV T (nx T (uE T s))).toNatClampNeg = u := by rw [eu]; exact nI_clamp (by omega)
            have sm : smS T sec 0 s a = .inr (uE T (nx T (uE T s)), true, false, u, a.2.2.2.2.1, a.2.2.2.2.2) := by unfold smS; rw [if_pos rfl, if_pos d2, if_neg c_34, if_neg (Int32.not_lt.mpr c_43), ku]
            rw [sm] at kF kG
            refine w_aload_n dX11_begins_56 rfl rfl ?_
            refine w_aload_n dX11_begins_57 rfl rfl ?_
            refine u_get (k := 44) (by decide) qb dX11_begins_58 fX11_232 ?_
            refine u_put (k := 32) (by decide) fb qb dX11_begins_61 fX11_274 (fun h4 f4 q4 => ?_)
            refine w_aload_n dX11_begins_64 rfl rfl ?_
            refine w_aload_n dX11_begins_65 rfl rfl ?_
            refine u_get (k := 44) (by decide) q4 dX11_begins_66 fX11_232 ?_
            refine u_put (k := 48) (by decide) f4 q4 dX11_begins_69 fX11_318 (fun h5 f5 q5 => ?_)
            refine w_aload_n dX11_begins_72 rfl rfl ?_
            refine w_iconst dX11_begins_73 (v := 1) (by decide) ?_
            refine u_putz (k := 49) (by decide) (by decide) f5 q5 dX11_begins_74 fX11_289 (fun h6 f6 q6 => ?_)
            rw [show uP φa 25 44 (uV T (nx T (uE T s))) 25 44 = uV T (nx T (uE T s)) from uP_s, show uP (uP φa 25 44 (uV T (nx T (uE T s)))) 25 32 (uV T (nx T (uE T s))) 25 44 = uV T (nx T (uE T s)) from (uP_k (by decide)).trans uP_s, eu] at q6
            have mz := (ma.uv uv9).bg (p := uE T (nx T (uE T s))) (u := u) hm ov hu (uE_le hx.2)
            rw [eu] at mz
            have ub9 : UB ψ (uP (uP (uP (uP φa 25 44 (nI u)) 25 32 (nI u)) 25 48 (nI u)) 25 49 1) := by
              rw [eu] at uv9
              exact ((uv9.ub.p (by decide)).p (by decide)).p (by decide)
            exact L_ebegins hB mz ((uP_k (by decide)).trans ((uP_k (by decide)).trans ((uP_k (by decide)).trans ((uP_k (by decide)).trans ta.1)))) f6 q6 (fun e g => (kF e g).p ub9) (fun c g hw φw fw qw uw => kG c g hw φw fw qw (ub9.tr uw))
          · rw [uP_s] at c_43
            refine w_aload_n dX11_begins_46 rfl rfl ?_
            refine w_iconst dX11_begins_47 (v := 2) (by decide) ?_
            refine w_aload_n dX11_begins_48 rfl rfl ?_
            refine u_get (k := 42) (by decide) qb dX11_begins_49 fX11_211 ?_
            refine w_v2 (d2 := 0) (L2 := 0) dX11_begins_52 vX11_258 rfl (qb.1.lt (by decide)) rfl rfl (by decide) (Nat.le_of_ble_eq_true rfl) (by decide) (by decide) ?_
            rw [show uP φa 25 44 (uV T (nx T (uE T s))) 25 42 = nI (nx T (uE T s)) from (uP_k (by decide)).trans ta.2.2.1]
            refine T_wrong fb qb (fun h7 f7 q7 => ?_)
            refine k_i rfl ?_
            refine w_iret dX11_begins_55 (fun _ e => by cases e; decide) ?_
            exact rf1 (kF (2, (nx T (uE T s))) (by unfold smS; rw [if_pos rfl, if_pos d2, if_neg c_34, if_pos (Int32.not_le.mp c_43)])) uv9.ub _ f7 q7
    · have un := uO_no hB hs eo
      have n30 := (nm_30 j un.2).1
      have nlt := nmO_lt j
      rw [show (30 : Int32) = nI 30 from rfl, nI_eq (by omega) (by decide), n30] at c_6
      refine w_aload_n dX11_begins_9 rfl rfl ?_
      refine w_v0 (d2 := 1) (L2 := 22) dX11_begins_10 vX11_309 rfl (q.1.lt (by decide)) (by decide) (Nat.le_of_ble_eq_true rfl) (by decide) (by decide) ?_
      refine T_wrt t.2.2.1 f q (fun h8 f8 q8 => ?_)
      refine k_i rfl ?_
      refine w_iret dX11_begins_13 (fun _ e => by cases e; decide) ?_
      exact rf1 (kF (1, s) (by unfold bdS; rw [if_neg c0, if_neg (fun e => by have h9 := e.2; rw [nb, eo, Option.some.injEq] at h9; exact absurd (h9.mpr c_6) (by decide))])) UB.rf _ f8 q8

set_option maxRecDepth 20000 in
set_option maxHeartbeats 4000000 in
theorem L_ln5 {X : Nat × (Nat → Int32)} {h0 h : PH} {Q : Option Value → PH → Prop} {T : List Int32} {ψ : Nat → Nat → Int32} {s : Nat} (hB : Byt T) (hs : s ≤ T.length) (t : RTK T s ψ) {sec : Bool} {a : AS} (ma : MA T sec a ψ) (hb : a.2.1 = true) (ov : a.2.2.1 = false) (c0 : ¬ uC T s = 0) (f : Fu h0 h) (q : RU h T ψ) (kF : ∀ e, bdS T sec s a = .inl e → RF h0 T ψ Q e.1 e.2) (kG : ∀ b, bdS T sec s a = .inr b → RP h0 T ψ Q sec b) {x1 x2 : Option Value} : WP X mX11_line 10 221 54 [some (.ref 25), x1, x2] [] h Q := by
  refine w_aload_n dX11_line_54 rfl rfl ?_
  refine w_v0 (d2 := 4) (L2 := 85) dX11_line_55 vX11_252 rfl (q.1.lt (by decide)) (by decide) (Nat.le_of_ble_eq_true rfl) (by decide) (by decide) ?_
  refine T_name hB hs t q (fun d1 => ?_) (fun j d1 eo => ?_)
  · refine k_i rfl ?_
    refine w_istore_n dX11_line_58 rfl (by decide) ?_
    refine w_iload_n dX11_line_59 rfl rfl ?_
    refine w_iconst dX11_line_60 (v := (-1)) (by decide) ?_
    refine w_icmp_eq (tgt := 70) dX11_line_61 (by decide) (fun c_61 => ?_) (fun c_61 => absurd c_61 (by decide))
    refine w_aload_n dX11_line_70 rfl rfl ?_
    refine w_v0 (d2 := 1) (L2 := 22) dX11_line_71 vX11_309 rfl (q.1.lt (by decide)) (by decide) (Nat.le_of_ble_eq_true rfl) (by decide) (by decide) ?_
    refine T_wrt t.2.2.1 f q (fun h1 f1 q1 => ?_)
    refine k_i rfl ?_
    refine w_iret dX11_line_74 (fun _ e => by cases e; decide) ?_
    exact rf1 (kF (1, s) (by unfold bdS; rw [if_neg c0, if_neg (fun e => d1 e.1)])) UB.rf _ f1 q1
  · refine k_i rfl ?_
    refine w_istore_n dX11_line_58 rfl (by decide) ?_
    have un := uO_no hB hs eo
    have n30 := nm_30 j un.2
    have nlt := nmO_lt j
    by_cases j0 : j = 0
    · subst j0
      rw [show nI (nmO.getD 0 0) = 30 from by decide]
      refine w_iload_n dX11_line_59 rfl rfl ?_
      refine w_iconst dX11_line_60 (v := (-1)) (by decide) ?_
      refine w_icmp_eq (tgt := 70) dX11_line_61 (by decide) (fun c_61 => absurd c_61 (by decide)) (fun c_61 => ?_)
      refine w_iload_n dX11_line_64 rfl rfl ?_
      refine w_bipush dX11_line_65 (v := 30) (by decide) ?_
      refine w_icmp_ne (tgt := 75) dX11_line_67 (by decide) (fun c_67 => absurd c_67 (by decide)) (fun c_67 => ?_)
      refine w_aload_n dX11_line_70 rfl rfl ?_
      refine w_v0 (d2 := 1) (L2 := 22) dX11_line_71 vX11_309 rfl (q.1.lt (by decide)) (by decide) (Nat.le_of_ble_eq_true rfl) (by decide) (by decide) ?_
      refine T_wrt t.2.2.1 f q (fun h1 f1 q1 => ?_)
      refine k_i rfl ?_
      refine w_iret dX11_line_74 (fun _ e => by cases e; decide) ?_
      exact rf1 (kF (1, s) (by unfold bdS; rw [if_neg c0, if_neg (fun e => by have h9 := e.2.mp hb; exact h9 eo)])) UB.rf _ f1 q1
    have bd : bdS T sec s a = (match smS T sec j s a with | .inl e => .inl e | .inr b => enS T b) := by unfold bdS; rw [if_neg c0, if_pos ⟨d1, by rw [hb, eo, Option.some.injEq]; exact ⟨fun _ => j0, fun _ => rfl⟩⟩, eo]; rfl
    rw [bd] at kF kG
    by_cases j36 : j = 36
    · subst j36
      rw [show nI (nmO.getD 36 0) = 31 from by decide]
      refine w_iload_n dX11_line_59 rfl rfl ?_
      refine w_iconst dX11_line_60 (v := (-1)) (by decide) ?_
      refine w_icmp_eq (tgt := 70) dX11_line_61 (by decide) (fun c_61 => absurd c_61 (by decide)) (fun c_61 => ?_)
      refine w_iload_n dX11_line_64 rfl rfl ?_
      refine w_bipush dX11_line_65 (v := 30) (by decide) ?_
      refine w_icmp_ne (tgt := 75) dX11_line_67 (by decide) (fun c_67 => ?_) (fun c_67 => absurd c_67 (by decide))
      refine w_aload_n dX11_line_75 rfl rfl ?_
      refine u_get (k := 42) (by decide) q dX11_line_76 fX11_211 ?_
      refine w_istore_n dX11_line_79 rfl (by decide) ?_
      refine w_iload_n dX11_line_80 rfl rfl ?_
      refine w_bipush dX11_line_81 (v := 31) (by decide) ?_
      refine w_icmp_lt (tgt := 98) dX11_line_83 (by decide) (fun c_83 => absurd c_83 (by decide)) (fun c_83 => ?_)
      refine w_aload_n dX11_line_86 rfl rfl ?_
      refine w_iload_n dX11_line_87 rfl rfl ?_
      refine w_iload_n dX11_line_88 rfl rfl ?_
      refine w_v2 (d2 := 7) (L2 := 156) dX11_line_89 vX11_312 rfl (q.1.lt (by decide)) rfl rfl (by decide) (Nat.le_of_ble_eq_true rfl) (by decide) (by decide) ?_
      rw [t.2.2.1]
      refine T_do31 hB hs t ma hb ov f q (fun e e9 hz φz fz qz z1 z2 z3 => ?_) (fun b e9 hz φz fz qz z1 z2 z3 => ?_)
      · refine k_i rfl ?_
        refine w_if_eq (tgt := 107) dX11_line_92 (by decide) (fun c_92 => ?_) (fun c_92 => absurd c_92 (by decide))
        refine w_iconst dX11_line_107 (v := 0) (by decide) ?_
        refine w_iret dX11_line_108 (fun _ e => by cases e; decide) ?_
        exact kF e (by rw [e9]) _ _ fz qz z1 z2 z3
      · refine k_i rfl ?_
        refine w_if_eq (tgt := 107) dX11_line_92 (by decide) (fun c_92 => absurd c_92 (by decide)) (fun c_92 => ?_)
        refine w_goto (tgt := 109) dX11_line_95 (by decide) ?_
        exact L_eline hB z2 z3 fz qz (fun e g => (kF e (by rw [e9]; exact g)).p z1) (fun c g hw φw fw qw uw => kG c (by rw [e9]; exact g) hw φw fw qw (z1.tr uw))
    by_cases j1 : j = 1
    · subst j1
      rw [show nI (nmO.getD 1 0) = 32 from by decide]
      refine w_iload_n dX11_line_59 rfl rfl ?_
      refine w_iconst dX11_line_60 (v := (-1)) (by decide) ?_
      refine w_icmp_eq (tgt := 70) dX11_line_61 (by decide) (fun c_61 => absurd c_61 (by decide)) (fun c_61 => ?_)
      refine w_iload_n dX11_line_64 rfl rfl ?_
      refine w_bipush dX11_line_65 (v := 30) (by decide) ?_
      refine w_icmp_ne (tgt := 75) dX11_line_67 (by decide) (fun c_67 => ?_) (fun c_67 => absurd c_67 (by decide))
      refine w_aload_n dX11_line_75 rfl rfl ?_
      refine u_get (k := 42) (by decide) q dX11_line_76 fX11_211 ?_
      refine w_istore_n dX11_line_79 rfl (by decide) ?_
      refine w_iload_n dX11_line_80 rfl rfl ?_
      refine w_bipush dX11_line_81 (v := 31) (by decide) ?_
      refine w_icmp_lt (tgt := 98) dX11_line_83 (by decide) (fun c_83 => absurd c_83 (by decide)) (fun c_83 => ?_)
      refine w_aload_n dX11_line_86 rfl rfl ?_
      refine w_iload_n dX11_line_87 rfl rfl ?_
      refine w_iload_n dX11_line_88 rfl rfl ?_
      refine w_v2 (d2 := 7) (L2 := 156) dX11_line_89 vX11_312 rfl (q.1.lt (by decide)) rfl rfl (by decide) (Nat.le_of_ble_eq_true rfl) (by decide) (by decide) ?_
      rw [t.2.2.1]
      refine T_do32 hB hs t ma hb ov f q (fun e e9 hz φz fz qz z1 z2 z3 => ?_) (fun b e9 hz φz fz qz z1 z2 z3 => ?_)
      · refine k_i rfl ?_
        refine w_if_eq (tgt := 107) dX11_line_92 (by decide) (fun c_92 => ?_) (fun c_92 => absurd c_92 (by decide))
        refine w_iconst dX11_line_107 (v := 0) (by decide) ?_
        refine w_iret dX11_line_108 (fun _ e => by cases e; decide) ?_
        exact kF e (by rw [e9]) _ _ fz qz z1 z2 z3
      · refine k_i rfl ?_
        refine w_if_eq (tgt := 107) dX11_line_92 (by decide) (fun c_92 => absurd c_92 (by decide)) (fun c_92 => ?_)
        refine w_goto (tgt := 109) dX11_line_95 (by decide) ?_
        exact L_eline hB z2 z3 fz qz (fun e g => (kF e (by rw [e9]; exact g)).p z1) (fun c g hw φw fw qw uw => kG c (by rw [e9]; exact g) hw φw fw qw (z1.tr uw))
    by_cases j2 : j = 2
    · subst j2
      rw [show nI (nmO.getD 2 0) = 33 from by decide]
      refine w_iload_n dX11_line_59 rfl rfl ?_
      refine w_iconst dX11_line_60 (v := (-1)) (by decide) ?_
      refine w_icmp_eq (tgt := 70) dX11_line_61 (by decide) (fun c_61 => absurd c_61 (by decide)) (fun c_61 => ?_)
      refine w_iload_n dX11_line_64 rfl rfl ?_
      refine w_bipush dX11_line_65 (v := 30) (by decide) ?_
      refine w_icmp_ne (tgt := 75) dX11_line_67 (by decide) (fun c_67 => ?_) (fun c_67 => absurd c_67 (by decide))
      refine w_aload_n dX11_line_75 rfl rfl ?_
      refine u_get (k := 42) (by decide) q dX11_line_76 fX11_211 ?_
      refine w_istore_n dX11_line_79 rfl (by decide) ?_
      refine w_iload_n dX11_line_80 rfl rfl ?_
      refine w_bipush dX11_line_81 (v := 31) (by decide) ?_
      refine w_icmp_lt (tgt := 98) dX11_line_83 (by decide) (fun c_83 => absurd c_83 (by decide)) (fun c_83 => ?_)
      refine w_aload_n dX11_line_86 rfl rfl ?_
      refine w_iload_n dX11_line_87 rfl rfl ?_
      refine w_iload_n dX11_line_88 rfl rfl ?_
      refine w_v2 (d2 := 7) (L2 := 156) dX11_line_89 vX11_312 rfl (q.1.lt (by decide)) rfl rfl (by decide) (Nat.le_of_ble_eq_true rfl) (by decide) (by decide) ?_
      rw [t.2.2.1]
      refine T_do33 hB hs t ma hb ov f q (fun e e9 hz φz fz qz z1 z2 z3 => ?_) (fun b e9 hz φz fz qz z1 z2 z3 => ?_)
      · refine k_i rfl ?_
        refine w_if_eq (tgt := 107) dX11_line_92 (by decide) (fun c_92 => ?_) (fun c_92 => absurd c_92 (by decide))
        refine w_iconst dX11_line_107 (v := 0) (by decide) ?_
        refine w_iret dX11_line_108 (fun _ e => by cases e; decide) ?_
        exact kF e (by rw [e9]) _ _ fz qz z1 z2 z3
      · refine k_i rfl ?_
        refine w_if_eq (tgt := 107) dX11_line_92 (by decide) (fun c_92 => absurd c_92 (by decide)) (fun c_92 => ?_)
        refine w_goto (tgt := 109) dX11_line_95 (by decide) ?_
        exact L_eline hB z2 z3 fz qz (fun e g => (kF e (by rw [e9]; exact g)).p z1) (fun c g hw φw fw qw uw => kG c (by rw [e9]; exact g) hw φw fw qw (z1.tr uw))
    by_cases j3 : j = 3
    · subst j3
      rw [show nI (nmO.getD 3 0) = 34 from by decide]
      refine w_iload_n dX11_line_59 rfl rfl ?_
      refine w_iconst dX11_line_60 (v := (-1)) (by decide) ?_
      refine w_icmp_eq (tgt := 70) dX11_line_61 (by decide) (fun c_61 => absurd c_61 (by decide)) (fun c_61 => ?_)
      refine w_iload_n dX11_line_64 rfl rfl ?_
      refine w_bipush dX11_line_65 (v := 30) (by decide) ?_
      refine w_icmp_ne (tgt := 75) dX11_line_67 (by decide) (fun c_67 => ?_) (fun c_67 => absurd c_67 (by decide))
      refine w_aload_n dX11_line_75 rfl rfl ?_
      refine u_get (k := 42) (by decide) q dX11_line_76 fX11_211 ?_
      refine w_istore_n dX11_line_79 rfl (by decide) ?_
      refine w_iload_n dX11_line_80 rfl rfl ?_
      refine w_bipush dX11_line_81 (v := 31) (by decide) ?_
      refine w_icmp_lt (tgt := 98) dX11_line_83 (by decide) (fun c_83 => absurd c_83 (by decide)) (fun c_83 => ?_)
      refine w_aload_n dX11_line_86 rfl rfl ?_
      refine w_iload_n dX11_line_87 rfl rfl ?_
      refine w_iload_n dX11_line_88 rfl rfl ?_
      refine w_v2 (d2 := 7) (L2 := 156) dX11_line_89 vX11_312 rfl (q.1.lt (by decide)) rfl rfl (by decide) (Nat.le_of_ble_eq_true rfl) (by decide) (by decide) ?_
      rw [t.2.2.1]
      refine T_do34 hB hs t ma hb ov f q (fun e e9 hz φz fz qz z1 z2 z3 => ?_) (fun b e9 hz φz fz qz z1 z2 z3 => ?_)
      · refine k_i rfl ?_
        refine w_if_eq (tgt := 107) dX11_line_92 (by decide) (fun c_92 => ?_) (fun c_92 => absurd c_92 (by decide))
        refine w_iconst dX11_line_107 (v := 0) (by decide) ?_
        refine w_iret dX11_line_108 (fun _ e => by cases e; decide) ?_
        exact kF e (by rw [e9]) _ _ fz qz z1 z2 z3
      · refine k_i rfl ?_
        refine w_if_eq (tgt := 107) dX11_line_92 (by decide) (fun c_92 => absurd c_92 (by decide)) (fun c_92 => ?_)
        refine w_goto (tgt := 109) dX11_line_95 (by decide) ?_
        exact L_eline hB z2 z3 fz qz (fun e g => (kF e (by rw [e9]; exact g)).p z1) (fun c g hw φw fw qw uw => kG c (by rw [e9]; exact g) hw φw fw qw (z1.tr uw))
    have hk : nmO.getD j 0 < 30 := by rcases n30.2 with h | h | h | h | h | h <;> first | exact absurd h (by assumption) | exact h
    refine w_iload_n dX11_line_59 rfl rfl ?_
    refine w_iconst dX11_line_60 (v := (-1)) (by decide) ?_
    refine w_icmp_eq (tgt := 70) dX11_line_61 (by decide) (fun c_61 => absurd c_61 (nI_m1 (by omega))) (fun c_61 => ?_)
    refine w_iload_n dX11_line_64 rfl rfl ?_
    refine w_bipush dX11_line_65 (v := 30) (by decide) ?_
    refine w_icmp_ne (tgt := 75) dX11_line_67 (by decide) (fun c_67 => ?_) (fun c_67 => absurd c_67 (by rw [show (30 : Int32) = nI 30 from rfl, nI_eq (by omega) (by decide)]; omega))
    refine w_aload_n dX11_line_75 rfl rfl ?_
    refine u_get (k := 42) (by decide) q dX11_line_76 fX11_211 ?_
    refine w_istore_n dX11_line_79 rfl (by decide) ?_
    refine w_iload_n dX11_line_80 rfl rfl ?_
    refine w_bipush dX11_line_81 (v := 31) (by decide) ?_
    refine w_icmp_lt (tgt := 98) dX11_line_83 (by decide) (fun c_83 => ?_) (fun c_83 => absurd c_83 (not_not_intro (by rw [show (31 : Int32) = nI 31 from rfl, nI_ltI (by omega) (by decide)]; omega)))
    refine w_aload_n dX11_line_98 rfl rfl ?_
    refine w_iload_n dX11_line_99 rfl rfl ?_
    refine w_iload_n dX11_line_100 rfl rfl ?_
    refine w_v2 (d2 := 9) (L2 := 199) dX11_line_101 vX11_315 rfl (q.1.lt (by decide)) rfl rfl (by decide) (Nat.le_of_ble_eq_true rfl) (by decide) (by decide) ?_
    rw [t.2.2.1]
    refine T_named hk hB hs t ma hb ov f q (fun e e9 hz φz fz qz z1 z2 z3 => ?_) (fun b e9 hz φz fz qz z1 z2 z3 => ?_)
    · refine k_i rfl ?_
      refine w_if_ne (tgt := 109) dX11_line_104 (by decide) (fun c_104 => absurd c_104 (by decide)) (fun c_104 => ?_)
      refine w_iconst dX11_line_107 (v := 0) (by decide) ?_
      refine w_iret dX11_line_108 (fun _ e => by cases e; decide) ?_
      rw [un.1] at e9
      exact kF e (by rw [e9]) _ _ fz qz z1 z2 z3
    · refine k_i rfl ?_
      refine w_if_ne (tgt := 109) dX11_line_104 (by decide) (fun c_104 => ?_) (fun c_104 => absurd c_104 (by decide))
      rw [un.1] at e9
      exact L_eline hB z2 z3 fz qz (fun e g => (kF e (by rw [e9]; exact g)).p z1) (fun c g hw φw fw qw uw => kG c (by rw [e9]; exact g) hw φw fw qw (z1.tr uw))

set_option maxRecDepth 20000 in
set_option maxHeartbeats 4000000 in
/-- line() -/
theorem T_line {X : Nat × (Nat → Int32)} {h0 h : PH} {Q : Option Value → PH → Prop} {T : List Int32} {ψ : Nat → Nat → Int32} (hB : Byt T) {sec : Bool} {a : AS} (ma : MA T sec a ψ) (np : ψ 25 40 = nI a.1) (iv : a.2.1 = false → a.2.2.2.2.1 = []) (ov : a.2.2.1 = false) (f : Fu h0 h) (q : RU h T ψ) (kF : ∀ e, lnS T sec a = .inl e → RF h0 T ψ Q e.1 e.2) (kG : ∀ b, lnS T sec a = .inr b → RP h0 T ψ Q sec b) : WP X mX11_line 10 221 0 (en 3 [.ref 25]) [] h Q := by
  refine w_aload_n dX11_line_0 rfl rfl ?_
  refine w_v0 (d2 := 3) (L2 := 60) dX11_line_1 vX11_297 rfl (q.1.lt (by decide)) (by decide) (Nat.le_of_ble_eq_true rfl) (by decide) (by decide) ?_
  refine T_next hB ma.2.2.2.2.2.2.2.2 np f q (fun ha φa fa qa ua ta => ?_)
  refine k_v rfl ?_
  have hx := nx_p ma.2.2.2.2.2.2.2.2
  have mb := ma.uv ua.uv
  refine w_aload_n dX11_line_4 rfl rfl ?_
  refine u_get (k := 41) (by decide) qa dX11_line_5 fX11_214 ?_
  refine w_if_ne (tgt := 13) dX11_line_8 (by decide) (fun c_8 => ?_) (fun c_8 => ?_)
  · rw [ta.2.1, rk_z] at c_8
    refine w_aload_n dX11_line_13 rfl rfl ?_
    refine u_get (k := 49) (by decide) qa dX11_line_14 fX11_289 ?_
    refine w_if_ne (tgt := 25) dX11_line_17 (by decide) (fun c_17 => ?_) (fun c_17 => ?_)
    · rw [mb.2.1.1] at c_17
      refine w_aload_n dX11_line_25 rfl rfl ?_
      refine w_v0 (d2 := 5) (L2 := 110) dX11_line_26 vX11_303 rfl (qa.1.lt (by decide)) (by decide) (Nat.le_of_ble_eq_true rfl) (by decide) (by decide) ?_
      have hb : a.2.1 = true := b01_1 c_17
      refine T_isLab hB hx.2 ta fa qa (fun d4 hb9 φb fb qb ub => ?_) (fun d4 => ?_)
      · refine k_i rfl ?_
        refine w_if_eq (tgt := 54) dX11_line_29 (by decide) (fun c_29 => ?_) (fun c_29 => absurd c_29 (by decide))
        have ln : lnS T sec a = bdS T sec (nx T a.1) a := by unfold lnS; rw [if_neg (fun e => d4 e.2)]
        rw [ln] at kF kG
        have uvb := ua.uv.tr ub.ua.uv
        exact L_ln5 hB hx.2 (ta.un ub) (ma.uv uvb) hb ov c_8 fb qb (fun e g => (kF e g).p uvb.ub) (fun c g hw φw fw qw uw => kG c g hw φw fw qw (uvb.ub.tr uw))
      · refine k_i rfl ?_
        refine w_if_eq (tgt := 54) dX11_line_29 (by decide) (fun c_29 => absurd c_29 (by decide)) (fun c_29 => ?_)
        refine w_aload_n dX11_line_32 rfl rfl ?_
        refine w_v0 (d2 := 2) (L2 := 43) dX11_line_33 vX11_306 rfl (qa.1.lt (by decide)) (by decide) (Nat.le_of_ble_eq_true rfl) (by decide) (by decide) ?_
        have ln : lnS T sec a = (match teS T sec (nx T a.1) a with | .inl e => .inl e | .inr b => bdS T sec (nx T b.1) b) := by unfold lnS; rw [if_pos ⟨hb, d4⟩]; rfl
        rw [ln] at kF kG
        refine T_mtell hB hx.2 ta mb hb d4 fa qa (fun e e9 hz φz fz qz z1 z2 z3 => ?_) (fun b e9 hz φz fz qz z1 z2 z3 => ?_)
        · refine k_i rfl ?_
          refine w_if_ne (tgt := 41) dX11_line_36 (by decide) (fun c_36 => absurd c_36 (by decide)) (fun c_36 => ?_)
          refine w_iconst dX11_line_39 (v := 0) (by decide) ?_
          refine w_iret dX11_line_40 (fun _ e => by cases e; decide) ?_
          exact kF e (by rw [e9]) _ _ fz qz (ua.uv.ub.tr z1) z2 z3
        · refine k_i rfl ?_
          refine w_if_ne (tgt := 41) dX11_line_36 (by decide) (fun c_36 => ?_) (fun c_36 => absurd c_36 (by decide))
          have hx2 := nx_p z2.2.2.2.2.2.2.2.2
          rw [e9] at kF kG
          replace kF : ∀ e, bdS T sec (nx T b.1) b = .inl e → RF h0 T ψ Q e.1 e.2 := kF
          replace kG : ∀ c, bdS T sec (nx T b.1) b = .inr c → RP h0 T ψ Q sec c := kG
          refine w_aload_n dX11_line_41 rfl rfl ?_
          refine w_v0 (d2 := 3) (L2 := 60) dX11_line_42 vX11_297 rfl (qz.1.lt (by decide)) (by decide) (Nat.le_of_ble_eq_true rfl) (by decide) (by decide) ?_
          refine T_next hB z2.2.2.2.2.2.2.2.2 z3 fz qz (fun hc φc fc qc uc tc => ?_)
          refine k_v rfl ?_
          refine w_aload_n dX11_line_45 rfl rfl ?_
          refine u_get (k := 41) (by decide) qc dX11_line_46 fX11_214 ?_
          refine w_if_ne (tgt := 54) dX11_line_49 (by decide) (fun c_49 => ?_) (fun c_49 => ?_)
          · rw [tc.2.1, rk_z] at c_49
            have lo := te_o e9
            exact L_ln5 hB hx2.2 tc (z2.uv uc.uv) (lo.1.trans hb) (lo.2.1.trans ov) c_49 fc qc (fun e g => (kF e g).p (ua.uv.ub.tr (z1.tr uc.uv.ub))) (fun c g hw φw fw qw uw => kG c g hw φw fw qw ((ua.uv.ub.tr (z1.tr uc.uv.ub)).tr uw))
          · rw [tc.2.1, rk_z] at c_49
            refine w_iconst dX11_line_52 (v := 1) (by decide) ?_
            refine w_iret dX11_line_53 (fun _ e => by cases e; decide) ?_
            exact kG _ (by unfold bdS; rw [if_pos c_49]) _ _ fc qc (ua.uv.ub.tr (z1.tr uc.uv.ub)) (MA.p (p := b.1) (z2.uv uc.uv) hx2.2) (by rw [tc.1, uE_end c_49])
    · rw [mb.2.1.1] at c_17
      refine w_aload_n dX11_line_20 rfl rfl ?_
      refine w_v0 (d2 := 5) (L2 := 110) dX11_line_21 vX11_300 rfl (qa.1.lt (by decide)) (by decide) (Nat.le_of_ble_eq_true rfl) (by decide) (by decide) ?_
      have nb : a.2.1 = false := b01_f c_17
      have ln : lnS T sec a = bdS T sec (nx T a.1) a := by unfold lnS; rw [if_neg (fun e => by rw [nb] at e; exact absurd e.1 (by decide))]
      rw [ln] at kF kG
      refine T_begins hB hx.2 ta mb nb (iv nb) ov c_8 fa qa (fun e e9 hz φz fz qz z1 z2 z3 => ?_) (fun b e9 hz φz fz qz z1 z2 z3 => ?_)
      · refine k_i rfl ?_
        refine w_iret dX11_line_24 (fun _ e => by cases e; decide) ?_
        exact kF e e9 _ _ fz qz (ua.uv.ub.tr z1) z2 z3
      · refine k_i rfl ?_
        refine w_iret dX11_line_24 (fun _ e => by cases e; decide) ?_
        exact kG b e9 _ _ fz qz (ua.uv.ub.tr z1) z2 z3
  · rw [ta.2.1, rk_z] at c_8
    refine w_iconst dX11_line_11 (v := 1) (by decide) ?_
    refine w_iret dX11_line_12 (fun _ e => by cases e; decide) ?_
    exact kG _ (by unfold lnS; rw [if_neg (fun e => by have := e.2; rw [c_8] at this; exact absurd this (by decide))]; unfold bdS; rw [if_pos c_8]) _ _ fa qa ua.uv.ub (MA.p (p := a.1) mb hx.2) (by rw [ta.1, uE_end c_8])

