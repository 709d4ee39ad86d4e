/-! THE REFERENCE's assemble() -/
/-- what the reference keeps of what was assembled -/
def MK (h : PH) (κ : KE) : Prop := hI h 25 25 = κ.1 ∧ hI h 25 28 = κ.2.1 ∧ hI h 25 29 = κ.2.2.1 ∧ (hI h 25 23 = nI κ.2.2.2.1.length ∧ κ.2.2.2.1.length ≤ 4096) ∧ (∀ (i : Nat) (v : Int32), κ.2.2.2.1[i]? = some v → hI h 31 i = v) ∧ (hI h 25 27 = nI κ.2.2.2.2.1.length ∧ κ.2.2.2.2.1.length ≤ 200) ∧ (∀ (i v : Nat), κ.2.2.2.2.1[i]? = some v → hI h 32 i = nI v) ∧ hI h 25 24 = nI κ.2.2.2.2.2
def FM (h h' : PH) : Prop := Sm [25, 31, 32, 33, 34, 35, 36, 38] h h' ∧ ∀ k, (0 < k ∧ k < 20) ∨ k = 38 → hI h' 25 k = hI h 25 k
theorem MK.ub {h h' : PH} {T : List Int32} {κ : KE} {φ : Nat → Nat → Int32} {e p : Int32} (q : RU h' T φ) (c : ∀ k, 20 ≤ k → k < 28 → k ≠ 21 → φ 25 k = hI h 25 k) (w : ∀ k, φ 31 k = hI h 31 k ∧ φ 32 k = hI h 32 k) (i28 : φ 25 28 = e) (i29 : φ 25 29 = p) (m : MK h κ) : MK h' (κ.1, e, p, κ.2.2.2) := by
  obtain ⟨m1, m2, m3, m4, m5, m6, m7, m8⟩ := m
  have g : ∀ k, 20 ≤ k → k < 28 → k ≠ 21 → hI h' 25 k = hI h 25 k := fun k a b d => (q.2.2.2.1 k a).trans (c k a b d)
  refine ⟨(g 25 (by decide) (by decide) (by decide)).trans m1, (q.2.2.2.1 28 (by decide)).trans i28, (q.2.2.2.1 29 (by decide)).trans i29, ⟨(g 23 (by decide) (by decide) (by decide)).trans m4.1, m4.2⟩, fun i v hv => ?_, ⟨(g 27 (by decide) (by decide) (by decide)).trans m6.1, m6.2⟩, fun i v hv => ?_, (g 24 (by decide) (by decide) (by decide)).trans m8⟩
  · rw [q.2.2.2.2 31 (by decide) i, (w i).1]; exact m5 i v hv
  · rw [q.2.2.2.2 32 (by decide) i, (w i).2]; exact m7 i v hv
set_option maxRecDepth 20000 in
set_option maxHeartbeats 4000000 in
theorem L_cpw {X : Nat × (Nat → Int32)} {h0 : PH} {Q : Option Value → PH → Prop} {T : List Int32} {n : Nat} (hn : n ≤ 4096) : ∀ (m i : Nat) (h : PH) (ψ : Nat → Nat → Int32), i + m = n → ψ 25 31 = nI n → Fu h0 h → RU h T ψ → (∀ h' φ x, Fu h0 h' → RU h' T φ → (∀ c k, c ≠ 31 → φ c k = ψ c k) → (∀ k, k < i → φ 31 k = ψ 31 k) → (∀ k, i ≤ k → k < n → φ 31 k = ψ 33 k) → WP X mX11_assemble 12 264 116 [some (.ref 25), x] [] h' Q) → WP X mX11_assemble 12 264 90 [some (.ref 25), some (.int (nI i))] [] h Q := by
  intro m
  induction m with
  | zero =>
    intro i h ψ hi e f q k
    refine w_iload_n dX11_assemble_90 rfl rfl ?_
    refine w_aload_n dX11_assemble_91 rfl rfl ?_
    refine u_get (k := 31) (by decide) q dX11_assemble_92 fX11_280 ?_
    refine w_icmp_ge (tgt := 116) dX11_assemble_95 (by decide) (fun c_95 => ?_) (fun c_95 => absurd c_95 (not_not_intro (by rw [e]; exact nI_le (by omega) (by omega))))
    exact k _ _ _ f q (fun _ _ _ => rfl) (fun _ _ => rfl) (fun j h1 h2 => by omega)
  | succ m ih =>
    intro i h ψ hi e f q k
    refine w_iload_n dX11_assemble_90 rfl rfl ?_
    refine w_aload_n dX11_assemble_91 rfl rfl ?_
    refine u_get (k := 31) (by decide) q dX11_assemble_92 fX11_280 ?_
    refine w_icmp_ge (tgt := 116) dX11_assemble_95 (by decide) (fun c_95 => absurd c_95 (by rw [e]; exact nI_ge (by omega) (by omega))) (fun c_95 => ?_)
    refine w_aload_n dX11_assemble_98 rfl rfl ?_
    refine w_gs (b := 31) q.1 dX11_assemble_99 fX11_26 (by decide) rfl rfl (by decide) ?_
    refine w_iload_n dX11_assemble_102 rfl rfl ?_
    refine w_aload_n dX11_assemble_103 rfl rfl ?_
    refine w_gs (b := 33) q.1 dX11_assemble_104 fX11_36 (by decide) rfl rfl (by decide) ?_
    refine w_iload_n dX11_assemble_107 rfl rfl ?_
    refine u_ld (c := 33) (by decide) q dX11_assemble_108 (vp_in_nI (show i < 4096 by omega) (by decide)) ?_
    rw [nI_clamp (by omega)]
    refine u_st (c := 31) (by decide) f q dX11_assemble_109 (vp_in_nI (show i < 4096 by omega) (by decide)) (fun h1 f1 q1 => ?_)
    rw [nI_clamp (by omega)] at q1
    refine w_iinc (v := (nI (i + 1))) dX11_assemble_110 rfl (nI_1 i) (by decide) ?_
    refine w_goto (tgt := 90) dX11_assemble_113 (by decide) ?_
    refine ih (i + 1) _ _ (by omega) ((uP_c (by decide)).trans e) f1 q1 (fun h9 φ9 x9 f9 q9 a1 a2 a3 => ?_)
    refine k h9 φ9 x9 f9 q9 (fun c j hc => (a1 c j hc).trans (uP_c hc)) (fun j hj => (a2 j (by omega)).trans (uP_k (by omega))) (fun j h1 h2 => ?_)
    rcases Nat.eq_or_lt_of_le h1 with c | c
    · subst c; rw [a2 i (by omega)]; exact uP_s
    · rw [a3 j (by omega) h2]; exact uP_c (by decide)

set_option maxRecDepth 20000 in
set_option maxHeartbeats 4000000 in
theorem L_cpl {X : Nat × (Nat → Int32)} {h0 : PH} {Q : Option Value → PH → Prop} {T : List Int32} {n : Nat} (hn : n ≤ 200) : ∀ (m i : Nat) (h : PH) (ψ : Nat → Nat → Int32), i + m = n → ψ 25 36 = nI n → Fu h0 h → RU h T ψ → (∀ h' φ x, Fu h0 h' → RU h' T φ → (∀ c k, c ≠ 32 → φ c k = ψ c k) → (∀ k, k < i → φ 32 k = ψ 32 k) → (∀ k, i ≤ k → k < n → φ 32 k = ψ 36 k) → WP X mX11_assemble 12 264 152 [some (.ref 25), x] [] h' Q) → WP X mX11_assemble 12 264 126 [some (.ref 25), some (.int (nI i))] [] h Q := by
  intro m
  induction m with
  | zero =>
    intro i h ψ hi e f q k
    refine w_iload_n dX11_assemble_126 rfl rfl ?_
    refine w_aload_n dX11_assemble_127 rfl rfl ?_
    refine u_get (k := 36) (by decide) q dX11_assemble_128 fX11_262 ?_
    refine w_icmp_ge (tgt := 152) dX11_assemble_131 (by decide) (fun c_131 => ?_) (fun c_131 => absurd c_131 (not_not_intro (by rw [e]; exact nI_le (by omega) (by omega))))
    exact k _ _ _ f q (fun _ _ _ => rfl) (fun _ _ => rfl) (fun j h1 h2 => by omega)
  | succ m ih =>
    intro i h ψ hi e f q k
    refine w_iload_n dX11_assemble_126 rfl rfl ?_
    refine w_aload_n dX11_assemble_127 rfl rfl ?_
    refine u_get (k := 36) (by decide) q dX11_assemble_128 fX11_262 ?_
    refine w_icmp_ge (tgt := 152) dX11_assemble_131 (by decide) (fun c_131 => absurd c_131 (by rw [e]; exact nI_ge (by omega) (by omega))) (fun c_131 => ?_)
    refine w_aload_n dX11_assemble_134 rfl rfl ?_
    refine w_gs (b := 32) q.1 dX11_assemble_135 fX11_29 (by decide) rfl rfl (by decide) ?_
    refine w_iload_n dX11_assemble_138 rfl rfl ?_
    refine w_aload_n dX11_assemble_139 rfl rfl ?_
    refine w_gs (b := 36) q.1 dX11_assemble_140 fX11_45 (by decide) rfl rfl (by decide) ?_
    refine w_iload_n dX11_assemble_143 rfl rfl ?_
    refine u_ld (c := 36) (by decide) q dX11_assemble_144 (vp_in_nI (show i < 200 by omega) (by decide)) ?_
    rw [nI_clamp (by omega)]
    refine u_st (c := 32) (by decide) f q dX11_assemble_145 (vp_in_nI (show i < 200 by omega) (by decide)) (fun h1 f1 q1 => ?_)
    rw [nI_clamp (by omega)] at q1
    refine w_iinc (v := (nI (i + 1))) dX11_assemble_146 rfl (nI_1 i) (by decide) ?_
    refine w_goto (tgt := 126) dX11_assemble_149 (by decide) ?_
    refine ih (i + 1) _ _ (by omega) ((uP_c (by decide)).trans e) f1 q1 (fun h9 φ9 x9 f9 q9 a1 a2 a3 => ?_)
    refine k h9 φ9 x9 f9 q9 (fun c j hc => (a1 c j hc).trans (uP_c hc)) (fun j hj => (a2 j (by omega)).trans (uP_k (by omega))) (fun j h1 h2 => ?_)
    rcases Nat.eq_or_lt_of_le h1 with c | c
    · subst c; rw [a2 i (by omega)]; exact uP_s
    · rw [a3 j (by omega) h2]; exact uP_c (by decide)

set_option maxRecDepth 20000 in
set_option maxHeartbeats 4000000 in
/-- assemble() -/
theorem T_masm {X : Nat × (Nat → Int32)} {h : PH} {Q : Option Value → PH → Prop} {T : List Int32} {κ : KE} (hB : Byt T) (qt : RTp T.length h T) (mk : MK h κ) (k : ∀ h', FM h h' → hI h' 25 0 = 0 → MK h' (asS T κ) → RTp 0 h' [] → Q (some (.int (asS T κ).2.1)) h') : WP X mX11_assemble 12 264 0 (en 2 [.ref 25]) [] h Q := by
  have S := qt.1
  refine w_aload_n dX11_assemble_0 rfl rfl ?_
  refine w_iconst dX11_assemble_1 (v := 0) (by decide) ?_
  refine w_pi S dX11_assemble_2 fX11_60 rfl rfl (by decide) ?_
  refine w_aload_n dX11_assemble_5 rfl rfl ?_
  refine w_aload_n dX11_assemble_6 rfl rfl ?_
  refine w_gi S.i dX11_assemble_7 fX11_184 rfl rfl (by decide) ?_
  refine w_pi S.i dX11_assemble_10 fX11_190 rfl rfl (by decide) ?_
  refine w_aload_n dX11_assemble_13 rfl rfl ?_
  refine w_iconst dX11_assemble_14 (v := 0) (by decide) ?_
  refine w_pi S.i.i dX11_assemble_15 fX11_184 rfl rfl (by decide) ?_
  obtain ⟨hX, e3⟩ : ∃ x, x = sI (sI (sI h 25 0 0) 25 39 (hI (sI h 25 0 0) 25 21)) 25 21 0 := ⟨_, rfl⟩
  rw [← e3]
  have g3 : ∀ k, k ≠ 0 → k ≠ 39 → k ≠ 21 → hI hX 25 k = hI h 25 k := fun k a b c => by rw [e3, rI_k c, rI_k b, rI_k a]
  have g3a : ∀ a k, a ≠ 25 → hI hX a k = hI h a k := fun a k n => by rw [e3, rI_a n, rI_a n, rI_a n]
  have sm3 : Sm [25, 31, 32, 33, 34, 35, 36, 38] h hX := by rw [e3]; exact ((Sm.rf.i (by decide)).i (by decide)).i (by decide)
  have i39 : hI hX 25 39 = nI T.length := by rw [e3, rI_k (by decide), rI, if_pos rfl, if_pos rfl, rI_k (by decide)]; exact qt.2.1
  have i21 : hI hX 25 21 = 0 := by rw [e3, rI, if_pos rfl, if_pos rfl]
  have i0 : hI hX 25 0 = 0 := by rw [e3, rI_k (by decide), rI_k (by decide), rI, if_pos rfl, if_pos rfl]
  have q : RU hX T (fun c k => hI hX c k) := ⟨sm3.st qt.1, ⟨qt.2.2.1, fun i v hv => by rw [g3a 30 i (by decide)]; exact qt.2.2.2 i v hv⟩, i39, fun _ _ => rfl, fun _ _ _ => rfl⟩
  have f : Fu hX hX := Fu.rf
  have fmz : ∀ hw, Fu hX hw → hI hw 25 38 = hI h 25 38 → FM h hw := fun hw fw e38 => ⟨sm3.tr fw.1, fun k hk => by
    rcases hk with ⟨a, b⟩ | rfl
    · rw [fw.2 k b]; exact g3 k (by omega) (by omega) (by omega)
    · exact e38⟩
  have thz : ∀ hw, Fu hX hw → hI hw 25 0 = 0 := fun hw fw => by rw [fw.2 0 (by decide)]; exact i0
  have rtz : ∀ hw (φw : Nat → Nat → Int32), Fu hX hw → RU hw T φw → φw 25 21 = 0 → RTp 0 hw [] := fun hw φw fw qw e21 => ⟨qw.1, (qw.2.2.2.1 21 (by decide)).trans e21, by simp, fun i v hv => by cases hv⟩
  have c4 : ∀ c k, c ≠ 25 → (uP (uP (uP (uP (fun c k => hI hX c k) 25 28 0) 25 29 (-1)) 25 36 0) 25 47 0) c k = hI h c k := fun c k n => (uP_c n).trans ((uP_c n).trans ((uP_c n).trans ((uP_c n).trans (g3a c k n))))
  have b4 : ∀ k, 20 ≤ k → k < 28 ∨ k = 38 → k ≠ 21 → (uP (uP (uP (uP (fun c k => hI hX c k) 25 28 0) 25 29 (-1)) 25 36 0) 25 47 0) 25 k = hI h 25 k := fun k a b c => (uP_k (by omega)).trans ((uP_k (by omega)).trans ((uP_k (by omega)).trans ((uP_k (by omega)).trans (g3 k (by omega) (by omega) c))))
  have t4 : (uP (uP (uP (uP (fun c k => hI hX c k) 25 28 0) 25 29 (-1)) 25 36 0) 25 47 0) 25 21 = 0 := (uP_k (by decide)).trans ((uP_k (by decide)).trans ((uP_k (by decide)).trans ((uP_k (by decide)).trans i21)))
  refine w_aload_n dX11_assemble_18 rfl rfl ?_
  refine w_iconst dX11_assemble_19 (v := 0) (by decide) ?_
  refine u_put (k := 28) (by decide) f q dX11_assemble_20 fX11_255 (fun h1 f1 q1 => ?_)
  refine w_aload_n dX11_assemble_23 rfl rfl ?_
  refine w_iconst dX11_assemble_24 (v := (-1)) (by decide) ?_
  refine u_put (k := 29) (by decide) f1 q1 dX11_assemble_25 fX11_32 (fun h2 f2 q2 => ?_)
  refine w_aload_n dX11_assemble_28 rfl rfl ?_
  refine w_iconst dX11_assemble_29 (v := 0) (by decide) ?_
  refine u_put (k := 36) (by decide) f2 q2 dX11_assemble_30 fX11_262 (fun h3 f3 q3 => ?_)
  refine w_aload_n dX11_assemble_33 rfl rfl ?_
  refine w_iconst dX11_assemble_34 (v := 0) (by decide) ?_
  refine u_putz (k := 47) (by decide) (by decide) f3 q3 dX11_assemble_35 fX11_265 (fun h4 f4 q4 => ?_)
  refine w_aload_n dX11_assemble_38 rfl rfl ?_
  refine w_v0 (d2 := 11) (L2 := 243) dX11_assemble_39 vX11_268 rfl (q4.1.lt (by decide)) (by decide) (Nat.le_of_ble_eq_true rfl) (by decide) (by decide) ?_
  have ml0 : ML T [] (uP (uP (uP (uP (fun c k => hI hX c k) 25 28 0) 25 29 (-1)) 25 36 0) 25 47 0) := ⟨(uP_k (by decide)).trans uP_s, by decide, fun i hi => absurd hi (by simp)⟩
  refine T_mpass (sec := false) (l := []) hB (uP_s (v := 0)) ml0 ⟨(uP_k (by decide)).trans ((uP_k (by decide)).trans ((uP_k (by decide)).trans uP_s)), (uP_k (by decide)).trans ((uP_k (by decide)).trans uP_s)⟩ f4 q4 (fun e e1 hz φz fz qz z1 z2 z3 => ?_) (fun b p e1 hz φz fz qz z1 mz => ?_)
  · refine k_i rfl ?_
    refine w_if_ne (tgt := 50) dX11_assemble_42 (by decide) (fun c_42 => absurd c_42 (by decide)) (fun c_42 => ?_)
    refine w_aload_n dX11_assemble_45 rfl rfl ?_
    refine u_get (k := 28) (by decide) qz dX11_assemble_46 fX11_255 ?_
    refine w_iret dX11_assemble_49 (fun _ e => by cases e; rfl) ?_
    have as : asS T κ = (κ.1, e.1, nI e.2, κ.2.2.2) := by unfold asS; rw [e1]
    have k9 := k hz (fmz hz fz ((qz.2.2.2.1 38 (by decide)).trans ((z1.1 38 (Or.inr rfl)).trans (b4 38 (by decide) (Or.inr rfl) (by decide))))) (thz hz fz) (by rw [as]; exact MK.ub qz (fun j a b c => (z1.1 j (Or.inl b)).trans (b4 j a (Or.inl b) c)) (fun j => ⟨(z1.2 j).1.trans (c4 31 j (by decide)), (z1.2 j).2.trans (c4 32 j (by decide))⟩) z2 z3 mk) (rtz hz φz fz qz ((z1.1 21 (Or.inl (by decide))).trans t4))
    rw [as] at k9
    rw [z2]; exact k9
  · refine k_i rfl ?_
    refine w_if_ne (tgt := 50) dX11_assemble_42 (by decide) (fun c_42 => ?_) (fun c_42 => absurd c_42 (by decide))
    refine w_aload_n dX11_assemble_50 rfl rfl ?_
    refine w_iconst dX11_assemble_51 (v := 1) (by decide) ?_
    refine u_putz (k := 47) (by decide) (by decide) fz qz dX11_assemble_52 fX11_265 (fun h5 f5 q5 => ?_)
    refine w_aload_n dX11_assemble_55 rfl rfl ?_
    refine w_v0 (d2 := 11) (L2 := 243) dX11_assemble_56 vX11_268 rfl (q5.1.lt (by decide)) (by decide) (Nat.le_of_ble_eq_true rfl) (by decide) (by decide) ?_
    have z0 : UB (uP (uP (uP (uP (fun c k => hI hX c k) 25 28 0) 25 29 (-1)) 25 36 0) 25 47 0) (uP φz 25 47 1) := z1.p (by decide)
    have ml1 : ML T b.2.2.2.2.2 (uP φz 25 47 1) := by
      have g := mz.2.2.2.2.2.2.1
      exact ⟨(uP_k (by decide)).trans g.1, g.2.1, fun i hi => ⟨(uP_c (by decide)).trans (g.2.2 i hi).1, (uP_c (by decide)).trans (g.2.2 i hi).2.1, (uP_c (by decide)).trans (g.2.2 i hi).2.2.1, (g.2.2 i hi).2.2.2⟩⟩
    refine T_mpass (sec := true) (l := b.2.2.2.2.2) hB (uP_s (v := 1)) ml1 ⟨(uP_k (by decide)).trans mz.2.2.2.2.2.2.2.1.1, (uP_k (by decide)).trans mz.2.2.2.2.2.2.2.1.2⟩ f5 q5 (fun e e2 hz φz fz qz y1 z2 z3 => ?_) (fun b' p' e2 hz φz fz qz y1 mz => ?_)
    · refine k_i rfl ?_
      refine w_if_ne (tgt := 67) dX11_assemble_59 (by decide) (fun c_59 => absurd c_59 (by decide)) (fun c_59 => ?_)
      refine w_aload_n dX11_assemble_62 rfl rfl ?_
      refine u_get (k := 28) (by decide) qz dX11_assemble_63 fX11_255 ?_
      refine w_iret dX11_assemble_66 (fun _ e => by cases e; rfl) ?_
      have as : asS T κ = (κ.1, e.1, nI e.2, κ.2.2.2) := by unfold asS; rw [e1]; show (match psS T true b.2.2.2.2.2 with | .inl e => _ | .inr c => _) = _; rw [e2]
      have z1 := z0.tr y1
      have k9 := k hz (fmz hz fz ((qz.2.2.2.1 38 (by decide)).trans ((z1.1 38 (Or.inr rfl)).trans (b4 38 (by decide) (Or.inr rfl) (by decide))))) (thz hz fz) (by rw [as]; exact MK.ub qz (fun j a b c => (z1.1 j (Or.inl b)).trans (b4 j a (Or.inl b) c)) (fun j => ⟨(z1.2 j).1.trans (c4 31 j (by decide)), (z1.2 j).2.trans (c4 32 j (by decide))⟩) z2 z3 mk) (rtz hz φz fz qz ((z1.1 21 (Or.inl (by decide))).trans t4))
      rw [as] at k9
      rw [z2]; exact k9
    · refine k_i rfl ?_
      refine w_if_ne (tgt := 67) dX11_assemble_59 (by decide) (fun c_59 => ?_) (fun c_59 => absurd c_59 (by decide))
      refine w_aload_n dX11_assemble_67 rfl rfl ?_
      refine w_iconst dX11_assemble_68 (v := 1) (by decide) ?_
      refine u_putz (k := 25) (by decide) (by decide) fz qz dX11_assemble_69 fX11_271 (fun h6 f6 q6 => ?_)
      refine w_aload_n dX11_assemble_72 rfl rfl ?_
      refine w_aload_n dX11_assemble_73 rfl rfl ?_
      refine u_get (k := 32) (by decide) q6 dX11_assemble_74 fX11_274 ?_
      refine u_put (k := 24) (by decide) f6 q6 dX11_assemble_77 fX11_277 (fun h7 f7 q7 => ?_)
      refine w_aload_n dX11_assemble_80 rfl rfl ?_
      refine w_aload_n dX11_assemble_81 rfl rfl ?_
      refine u_get (k := 31) (by decide) q7 dX11_assemble_82 fX11_280 ?_
      refine u_put (k := 23) (by decide) f7 q7 dX11_assemble_85 fX11_283 (fun h8 f8 q8 => ?_)
      refine w_iconst dX11_assemble_88 (v := 0) (by decide) ?_
      refine w_istore_n dX11_assemble_89 rfl (by decide) ?_
      have z1 := z0.tr y1
      have bt : b'.2.1 = true := by
        unfold psS at e2
        split at e2
        · cases e2
        · split at e2
          · cases e2; assumption
          · cases e2
      have pc9 := mz.2.2.2.1 bt
      have l9 := mz.2.2.2.2.2.2.1
      refine L_cpw (n := b'.2.2.2.2.1.length) mz.2.2.1.2 b'.2.2.2.2.1.length 0 _ _ (by omega) ((uP_k (by decide)).trans ((uP_k (by decide)).trans ((uP_k (by decide)).trans mz.2.2.1.1))) f8 q8 (fun hw φw xw fw qw w1 w2 w3 => ?_)
      refine w_aload_n dX11_assemble_116 rfl rfl ?_
      refine w_aload_n dX11_assemble_117 rfl rfl ?_
      refine u_get (k := 36) (by decide) qw dX11_assemble_118 fX11_262 ?_
      refine u_put (k := 27) (by decide) fw qw dX11_assemble_121 fX11_286 (fun h1 f1 q1 => ?_)
      refine w_iconst dX11_assemble_124 (v := 0) (by decide) ?_
      refine w_istore_n dX11_assemble_125 rfl (by decide) ?_
      refine L_cpl (n := b'.2.2.2.2.2.length) l9.2.1 b'.2.2.2.2.2.length 0 _ _ (by omega) ?_ f1 q1 (fun hv φv xv fv qv v1 v2 v3 => ?_)
      · rw [uP_k (by decide), w1 25 36 (by decide), uP_k (by decide), uP_k (by decide), uP_k (by decide)]; exact l9.1
      have as : asS T κ = (1, 0, -1, b'.2.2.2.2.1, b'.2.2.2.2.2.map Prod.snd, b'.2.2.2.1) := by unfold asS; rw [e1]; show (match psS T true b.2.2.2.2.2 with | .inl e => _ | .inr c => _) = _; rw [e2]
      refine w_iconst dX11_assemble_152 (v := 0) (by decide) ?_
      refine w_iret dX11_assemble_153 (fun _ e => by cases e; rfl) ?_
      have V25 : ∀ k, k ≠ 27 → φv 25 k = φw 25 k := fun k n => (v1 25 k (by decide)).trans (uP_k n)
      have W25 : ∀ k, k ≠ 25 → k ≠ 24 → k ≠ 23 → φw 25 k = φz 25 k := fun k n1 n2 n3 => (w1 25 k (by decide)).trans ((uP_k n3).trans ((uP_k n2).trans (uP_k n1)))
      have k9 := k hv (fmz hv fv ?_) (thz hv fv) ?_ (rtz hv φv fv qv ?_)
      · rw [as] at k9; exact k9
      · rw [qv.2.2.2.1 38 (by decide), V25 38 (by decide), W25 38 (by decide) (by decide) (by decide), z1.1 38 (Or.inr rfl)]; exact b4 38 (by decide) (Or.inr rfl) (by decide)
      · rw [as]
        refine ⟨?_, ?_, ?_, ⟨?_, mz.2.2.1.2⟩, fun i v hv9 => ?_, ⟨?_, ?_⟩, fun i v hv9 => ?_, ?_⟩
        · rw [qv.2.2.2.1 25 (by decide), V25 25 (by decide), w1 25 25 (by decide), uP_k (by decide), uP_k (by decide), uP_s]
        · rw [qv.2.2.2.1 28 (by decide), V25 28 (by decide), W25 28 (by decide) (by decide) (by decide)]; exact mz.2.2.2.2.2.2.2.1.1
        · rw [qv.2.2.2.1 29 (by decide), V25 29 (by decide), W25 29 (by decide) (by decide) (by decide)]; exact mz.2.2.2.2.2.2.2.1.2
        · rw [qv.2.2.2.1 23 (by decide), V25 23 (by decide), w1 25 23 (by decide), uP_s, uP_k (by decide), uP_k (by decide)]; exact mz.2.2.1.1
        · have hi : i < b'.2.2.2.2.1.length := (List.getElem?_eq_some_iff.mp hv9).1
          rw [qv.2.2.2.2 31 (by decide) i, v1 31 i (by decide), uP_c (by decide), w3 i (by omega) hi, uP_c (by decide), uP_c (by decide), uP_c (by decide)]
          exact mz.2.2.2.2.2.1 rfl i v hv9
        · show hI hv 25 27 = nI (b'.2.2.2.2.2.map Prod.snd).length
          rw [List.length_map, qv.2.2.2.1 27 (by decide), v1 25 27 (by decide), uP_s, w1 25 36 (by decide), uP_k (by decide), uP_k (by decide), uP_k (by decide)]; exact l9.1
        · show (b'.2.2.2.2.2.map Prod.snd).length ≤ 200
          rw [List.length_map]; exact l9.2.1
        · have hv2 : (b'.2.2.2.2.2.map Prod.snd)[i]? = some v := hv9
          have hi := (List.getElem?_eq_some_iff.mp hv2).1
          rw [List.length_map] at hi
          rw [qv.2.2.2.2 32 (by decide) i, v3 i (by omega) hi, uP_c (by decide), w1 36 i (by decide), uP_c (by decide), uP_c (by decide), uP_c (by decide), (l9.2.2 i hi).2.2.1]
          rw [List.getElem?_map, List.getElem?_eq_getElem hi] at hv2
          show nI (b'.2.2.2.2.2.getD i (0, 0)).2 = nI v
          rw [List.getD_eq_getElem?_getD, List.getElem?_eq_getElem hi]
          exact congrArg nI (Option.some.inj hv2)
        · rw [qv.2.2.2.1 24 (by decide), V25 24 (by decide), w1 25 24 (by decide), uP_k (by decide), uP_s, uP_k (by decide)]; exact pc9.2
      · rw [V25 21 (by decide), W25 21 (by decide) (by decide) (by decide), z1.1 21 (Or.inl (by decide))]; exact t4

