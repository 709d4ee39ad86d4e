/-! THE REFERENCE READS: what a token is -/
theorem uC_z {T : List Int32} {s : Nat} (h : sgI (bT T s) = 0) : uC T s = 0 ∨ uC T s = 5 ∨ uC T s = 6 := by
  unfold uC
  split
  · exact Or.inl rfl
  split
  · exact Or.inl rfl
  split
  · split
    · exact Or.inr (Or.inl rfl)
    · exact Or.inr (Or.inr rfl)
  exact Or.inr (Or.inr rfl)
theorem rk_le (T : List Int32) (s : Nat) : rk T s < 4 := by
  unfold rk
  split
  · split
    · decide
    split <;> decide
  · decide
theorem rk_i {T : List Int32} {s : Nat} : nI (rk T s) = 1 ↔ ¬ sgI (bT T s) = 0 := by
  rw [show (1 : Int32) = nI 1 from rfl, nI_eq (by have := rk_le T s; omega) (by decide)]
  constructor
  · intro h c
    unfold rk at h
    rw [if_pos c] at h
    split at h
    · exact absurd h (by decide)
    split at h <;> exact absurd h (by decide)
  · exact rk_1
theorem nb_16 {T : List Int32} {s : Nat} (h : bT T s = 88 ∨ bT T s = 120) : nbS T s = 16 := by
  unfold nbS
  rcases h with g | g
  · rw [if_pos g]
  · rw [if_pos g]; exact ite_self _
theorem ni_le {T : List Int32} {s : Nat} (h : s < wd1 T s) : niS T s ≤ wd1 T s := by have := nj_ge T s; omega
theorem ni_45 {T : List Int32} {s : Nat} (hs : s < T.length) (h : s < wd1 T s) (h45 : bT T (niS T s) = 45) : niS T s < wd1 T s := by
  have a := nj_ge T s
  rcases Nat.lt_or_ge (niS T s) (wd1 T s) with c | c
  · exact c
  · have e : niS T s = wd1 T s := by have := ni_le h; omega
    have w := wd1_p (Nat.le_of_lt hs)
    rcases Nat.lt_or_ge (wd1 T s) T.length with g | g
    · have := w.2.2.2 g; rw [← e, h45] at this; exact absurd this (by decide)
    · rw [bT_out (by omega)] at h45; exact absurd h45 (by decide)
set_option maxRecDepth 20000 in
set_option maxHeartbeats 4000000 in
theorem L_in5x {X : Nat × (Nat → Int32)} {h0 h : PH} {Q : Option Value → PH → Prop} {T : List Int32} {ψ : Nat → Nat → Int32} {s : Nat} {e : Nat} {x1 x4 z : Int32} (hB : Byt T) (he : e ≤ 4000) (e3 : ψ 25 43 = nI e) (f : Fu h0 h) (q : RU h T ψ) : ∀ (m i : Nat) (a : Int32) (x : Option Value), i + m = e → (dgS T 16 m i a = none → Q (some (.int 0)) h) → (∀ v, dgS T 16 m i a = some v → ∀ h', Fu h0 h' → RU h' T (uP ψ 25 44 (if z = 0 then v else -v)) → Q (some (.int 1)) h') → WP X mX11_isNumber 2 41 119 [some (.ref 25), some (.int x1), some (.int 1), some (.int z), some (.int x4), some (.int a), some (.int (nI i)), x] [] h Q := by
  intro m
  induction m with
  | zero =>
    intro i a x hn k0 k1
    refine w_iload dX11_isNumber_119 rfl ?_
    refine w_aload_n dX11_isNumber_121 rfl rfl ?_
    refine u_get (k := 43) (by decide) q dX11_isNumber_122 fX11_223 ?_
    refine w_icmp_ge (tgt := 182) dX11_isNumber_125 (by decide) (fun c_125 => ?_) (fun c_125 => absurd c_125 (not_not_intro (by rw [e3]; exact nI_le (by omega) (by omega))))
    refine w_aload_n dX11_isNumber_182 rfl rfl ?_
    refine w_iload_n dX11_isNumber_183 rfl rfl ?_
    refine w_if_eq (tgt := 193) dX11_isNumber_184 (by decide) (fun c_184 => ?_) (fun c_184 => ?_)
    · refine w_iload dX11_isNumber_193 rfl ?_
      refine u_put (k := 44) (by decide) f q dX11_isNumber_195 fX11_232 (fun h1 f1 q1 => ?_)
      refine w_iconst dX11_isNumber_198 (v := 1) (by decide) ?_
      refine w_iret dX11_isNumber_199 (fun _ e => by cases e; decide) ?_
      refine k1 a rfl _ f1 ?_
      first | rw [if_pos c_184]; exact q1 | rw [if_neg c_184]; exact q1
    · refine w_iload dX11_isNumber_187 rfl ?_
      refine w_ineg dX11_isNumber_189 ?_
      refine w_goto (tgt := 195) dX11_isNumber_190 (by decide) ?_
      refine u_put (k := 44) (by decide) f q dX11_isNumber_195 fX11_232 (fun h2 f2 q2 => ?_)
      refine w_iconst dX11_isNumber_198 (v := 1) (by decide) ?_
      refine w_iret dX11_isNumber_199 (fun _ e => by cases e; decide) ?_
      refine k1 a rfl _ f2 ?_
      first | rw [if_pos c_184]; exact q2 | rw [if_neg c_184]; exact q2
  | succ m ih =>
    intro i a x hn k0 k1
    have fg := b_fg16 (hB.b i)
    refine w_iload dX11_isNumber_119 rfl ?_
    refine w_aload_n dX11_isNumber_121 rfl rfl ?_
    refine u_get (k := 43) (by decide) q dX11_isNumber_122 fX11_223 ?_
    refine w_icmp_ge (tgt := 182) dX11_isNumber_125 (by decide) (fun c_125 => absurd c_125 (by rw [e3]; exact nI_ge (by omega) (by omega))) (fun c_125 => ?_)
    refine w_aload_n dX11_isNumber_128 rfl rfl ?_
    refine w_iload dX11_isNumber_129 rfl ?_
    refine w_v1 (d2 := 0) (L2 := 0) dX11_isNumber_131 vX11_205 rfl (q.1.lt (by decide)) rfl (by decide) (Nat.le_of_ble_eq_true rfl) (by decide) (by decide) ?_
    refine T_sign (by omega) q ?_
    refine k_i rfl ?_
    refine w_s1 (d2 := 1) (L2 := 20) dX11_isNumber_134 vX11_229 rfl (by decide) (Nat.le_of_ble_eq_true rfl) (by decide) (by decide) ?_
    refine T_fgr ?_
    refine k_i rfl ?_
    refine w_istore dX11_isNumber_137 (by decide) ?_
    refine w_iload dX11_isNumber_139 rfl ?_
    refine w_if_lt (tgt := 155) dX11_isNumber_141 (by decide) (fun c_141 => ?_) (fun c_141 => ?_)
    · refine w_iconst dX11_isNumber_155 (v := 0) (by decide) ?_
      refine w_iret dX11_isNumber_156 (fun _ e => by cases e; decide) ?_
      exact k0 (by rw [dgS, if_neg (fg.1.mp c_141)])
    · refine w_iload_n dX11_isNumber_144 rfl rfl ?_
      refine w_if_ne (tgt := 157) dX11_isNumber_145 (by decide) (fun c_145 => ?_) (fun c_145 => absurd c_145 (by decide))
      refine w_iload dX11_isNumber_157 rfl ?_
      refine w_iload_n dX11_isNumber_159 rfl rfl ?_
      refine w_if_eq (tgt := 168) dX11_isNumber_160 (by decide) (fun c_160 => absurd c_160 (by decide)) (fun c_160 => ?_)
      refine w_bipush dX11_isNumber_163 (v := 16) (by decide) ?_
      refine w_goto (tgt := 170) dX11_isNumber_165 (by decide) ?_
      refine w_imul dX11_isNumber_170 ?_
      refine w_iload dX11_isNumber_171 rfl ?_
      refine w_iadd dX11_isNumber_173 ?_
      refine w_istore dX11_isNumber_174 (by decide) ?_
      refine w_iinc (v := (nI (i + 1))) dX11_isNumber_176 rfl (nI_1 i) (by decide) ?_
      refine w_goto (tgt := 119) dX11_isNumber_179 (by decide) ?_
      have dl : dgI (bT T i) < 16 := Decidable.not_not.mp (fun g => c_141 (fg.1.mpr g))
      rw [fg.2 c_141]
      exact ih (i + 1) _ _ (by omega) (fun e9 => k0 (by rw [dgS, if_pos dl]; exact e9)) (fun v e9 => k1 v (by rw [dgS, if_pos dl]; exact e9))

set_option maxRecDepth 20000 in
set_option maxHeartbeats 4000000 in
theorem L_in4x {X : Nat × (Nat → Int32)} {h0 h : PH} {Q : Option Value → PH → Prop} {T : List Int32} {ψ : Nat → Nat → Int32} {s : Nat} (hB : Byt T) (hs : s < T.length) (hw : s < wd1 T s) (e2 : ψ 25 42 = nI s) (e3 : ψ 25 43 = nI (wd1 T s)) (f : Fu h0 h) (q : RU h T ψ) (hn : nbS T s = 16) (k0 : numS T s (wd1 T s) = none → Q (some (.int 0)) h) (k1 : ∀ v, numS T s (wd1 T s) = some v → ∀ h', Fu h0 h' → RU h' T (uP ψ 25 44 v) → Q (some (.int 1)) h') (hj : njS T s ≤ wd1 T s) {x4 x5 x6 x7 : Option Value} : WP X mX11_isNumber 2 41 82 [some (.ref 25), some (.int (nI (njS T s))), some (.int 1), some (.int (if bT T (niS T s) = 45 then 1 else 0)), x4, x5, x6, x7] [] h Q := by
  have hl := q.2.1.1
  have w9 := wd1_p (Nat.le_of_lt hs)
  refine w_aload_n dX11_isNumber_82 rfl rfl ?_
  refine u_get (k := 43) (by decide) q dX11_isNumber_83 fX11_223 ?_
  refine w_iload_n dX11_isNumber_86 rfl rfl ?_
  refine w_isub dX11_isNumber_87 ?_
  refine w_istore dX11_isNumber_88 (by decide) ?_
  refine w_iload dX11_isNumber_90 rfl ?_
  refine w_iconst dX11_isNumber_92 (v := 1) (by decide) ?_
  refine w_icmp_lt (tgt := 111) dX11_isNumber_93 (by decide) (fun c_93 => ?_) (fun c_93 => ?_)
  · rw [e3, nI_sub hj, show (1 : Int32) = nI 1 from rfl, nI_ltI (by omega) (by decide)] at c_93
    refine w_iconst dX11_isNumber_111 (v := 0) (by decide) ?_
    refine w_iret dX11_isNumber_112 (fun _ e => by cases e; decide) ?_
    exact k0 (num_l (by omega))
  · rw [e3, nI_sub hj, show (1 : Int32) = nI 1 from rfl, nI_ltI (by omega) (by decide)] at c_93
    refine w_iload dX11_isNumber_96 rfl ?_
    refine w_iload_n dX11_isNumber_98 rfl rfl ?_
    refine w_if_eq (tgt := 106) dX11_isNumber_99 (by decide) (fun c_99 => absurd c_99 (by decide)) (fun c_99 => ?_)
    refine w_iconst dX11_isNumber_102 (v := 5) (by decide) ?_
    refine w_goto (tgt := 108) dX11_isNumber_103 (by decide) ?_
    refine w_icmp_le (tgt := 113) dX11_isNumber_108 (by decide) (fun c_108 => ?_) (fun c_108 => ?_)
    · rw [e3, nI_sub hj, show (5 : Int32) = nI 5 from rfl, nI_leI (by omega) (by decide)] at c_108
      refine w_iconst dX11_isNumber_113 (v := 0) (by decide) ?_
      refine w_istore dX11_isNumber_114 (by decide) ?_
      refine w_iload_n dX11_isNumber_116 rfl rfl ?_
      refine w_istore dX11_isNumber_117 (by decide) ?_
      have h9 : ¬ (if nbS T s = 16 then 5 else 6) < wd1 T s - njS T s := by rw [hn]; rw [if_pos rfl]; omega
      have h8 : ¬ wd1 T s ≤ njS T s := by omega
      exact L_in5x (s := s) (z := if bT T (niS T s) = 45 then 1 else 0) hB (by omega) e3 f q (wd1 T s - njS T s) (njS T s) 0 _ (by omega) (fun e9 => k0 (num_o (r := none) h8 h9 (by rw [hn]; exact e9))) (fun v e9 h' f' q' => k1 _ (num_o (r := some v) h8 h9 (by rw [hn]; exact e9)) h' f' (by by_cases c : bT T (niS T s) = 45 <;> simpa [c] using q'))
    · rw [e3, nI_sub hj, show (5 : Int32) = nI 5 from rfl, nI_leI (by omega) (by decide)] at c_108
      refine w_iconst dX11_isNumber_111 (v := 0) (by decide) ?_
      refine w_iret dX11_isNumber_112 (fun _ e => by cases e; decide) ?_
      exact k0 (num_m (by rw [hn]; rw [if_pos rfl]; omega))

set_option maxRecDepth 20000 in
set_option maxHeartbeats 4000000 in
theorem L_in3x {X : Nat × (Nat → Int32)} {h0 h : PH} {Q : Option Value → PH → Prop} {T : List Int32} {ψ : Nat → Nat → Int32} {s : Nat} (hB : Byt T) (hs : s < T.length) (hw : s < wd1 T s) (e2 : ψ 25 42 = nI s) (e3 : ψ 25 43 = nI (wd1 T s)) (f : Fu h0 h) (q : RU h T ψ) (hn : nbS T s = 16) (k0 : numS T s (wd1 T s) = none → Q (some (.int 0)) h) (k1 : ∀ v, numS T s (wd1 T s) = some v → ∀ h', Fu h0 h' → RU h' T (uP ψ 25 44 v) → Q (some (.int 1)) h') {x3 x4 x5 x6 x7 : Option Value} : WP X mX11_isNumber 2 41 51 [some (.ref 25), some (.int (nI (niS T s))), some (.int 1), x3, x4, x5, x6, x7] [] h Q := by
  have hl := q.2.1.1
  have w9 := wd1_p (Nat.le_of_lt hs)
  have n9 := ni_le hw
  have k9 := fun hj => L_in4x (X := X) (x4 := x4) (x5 := x5) (x6 := x6) (x7 := x7) hB hs hw e2 e3 f q hn k0 k1 hj
  refine w_aload_n dX11_isNumber_51 rfl rfl ?_
  refine w_iload_n dX11_isNumber_52 rfl rfl ?_
  refine w_v1 (d2 := 0) (L2 := 0) dX11_isNumber_53 vX11_205 rfl (q.1.lt (by decide)) rfl (by decide) (Nat.le_of_ble_eq_true rfl) (by decide) (by decide) ?_
  refine T_sign (by omega) q ?_
  refine k_i rfl ?_
  refine w_bipush dX11_isNumber_56 (v := 45) (by decide) ?_
  refine w_icmp_ne (tgt := 73) dX11_isNumber_58 (by decide) (fun c_58 => ?_) (fun c_58 => ?_)
  · refine w_iconst dX11_isNumber_73 (v := 0) (by decide) ?_
    refine w_istore_n dX11_isNumber_74 rfl (by decide) ?_
    refine w_iload_n dX11_isNumber_75 rfl rfl ?_
    refine w_if_eq (tgt := 82) dX11_isNumber_76 (by decide) (fun c_76 => ?_) (fun c_76 => absurd c_76 (by decide))
    have ej : njS T s = niS T s := by unfold njS; rw [if_neg c_58]
    rw [if_neg c_58, ej] at k9; exact k9 n9
  · refine w_iload_n dX11_isNumber_61 rfl rfl ?_
    refine w_aload_n dX11_isNumber_62 rfl rfl ?_
    refine u_get (k := 43) (by decide) q dX11_isNumber_63 fX11_223 ?_
    refine w_icmp_ge (tgt := 73) dX11_isNumber_66 (by decide) (fun c_66 => absurd c_66 (by rw [e3]; exact nI_ge (ni_45 hs hw c_58) (by omega))) (fun c_66 => ?_)
    refine w_iconst dX11_isNumber_69 (v := 1) (by decide) ?_
    refine w_goto (tgt := 74) dX11_isNumber_70 (by decide) ?_
    refine w_istore_n dX11_isNumber_74 rfl (by decide) ?_
    refine w_iload_n dX11_isNumber_75 rfl rfl ?_
    refine w_if_eq (tgt := 82) dX11_isNumber_76 (by decide) (fun c_76 => absurd c_76 (by decide)) (fun c_76 => ?_)
    refine w_iinc (v := (nI (niS T s + 1))) dX11_isNumber_79 rfl (nI_1 _) (by decide) ?_
    have ej : njS T s = niS T s + 1 := by unfold njS; rw [if_pos c_58]
    rw [if_pos c_58, ej] at k9; exact k9 (ni_45 hs hw c_58)

set_option maxRecDepth 20000 in
set_option maxHeartbeats 4000000 in
theorem L_in2x {X : Nat × (Nat → Int32)} {h0 h : PH} {Q : Option Value → PH → Prop} {T : List Int32} {ψ : Nat → Nat → Int32} {s : Nat} (hB : Byt T) (hs : s < T.length) (hw : s < wd1 T s) (e2 : ψ 25 42 = nI s) (e3 : ψ 25 43 = nI (wd1 T s)) (f : Fu h0 h) (q : RU h T ψ) (hn : nbS T s = 16) (k0 : numS T s (wd1 T s) = none → Q (some (.int 0)) h) (k1 : ∀ v, numS T s (wd1 T s) = some v → ∀ h', Fu h0 h' → RU h' T (uP ψ 25 44 v) → Q (some (.int 1)) h') {x3 x4 x5 x6 x7 : Option Value} : WP X mX11_isNumber 2 41 34 [some (.ref 25), some (.int (nI s)), some (.int 1), x3, x4, x5, x6, x7] [] h Q := by
  have hl := q.2.1.1
  have k9 := L_in3x (X := X) (x3 := x3) (x4 := x4) (x5 := x5) (x6 := x6) (x7 := x7) hB hs hw e2 e3 f q hn k0 k1
  refine w_iload_n dX11_isNumber_34 rfl rfl ?_
  refine w_if_ne (tgt := 48) dX11_isNumber_35 (by decide) (fun c_35 => ?_) (fun c_35 => absurd c_35 (by decide))
  refine w_iinc (v := (nI (s + 1))) dX11_isNumber_48 rfl (nI_1 _) (by decide) ?_
  rw [show niS T s = s + 1 by unfold niS; rw [hn]; rfl] at k9; exact k9

set_option maxRecDepth 20000 in
set_option maxHeartbeats 4000000 in
theorem L_in5d {X : Nat × (Nat → Int32)} {h0 h : PH} {Q : Option Value → PH → Prop} {T : List Int32} {ψ : Nat → Nat → Int32} {s : Nat} {e : Nat} {x1 x4 z : Int32} (hB : Byt T) (he : e ≤ 4000) (e3 : ψ 25 43 = nI e) (f : Fu h0 h) (q : RU h T ψ) : ∀ (m i : Nat) (a : Int32) (x : Option Value), i + m = e → (dgS T 10 m i a = none → Q (some (.int 0)) h) → (∀ v, dgS T 10 m i a = some v → ∀ h', Fu h0 h' → RU h' T (uP ψ 25 44 (if z = 0 then v else -v)) → Q (some (.int 1)) h') → WP X mX11_isNumber 2 41 119 [some (.ref 25), some (.int x1), some (.int 0), some (.int z), some (.int x4), some (.int a), some (.int (nI i)), x] [] h Q := by
  intro m
  induction m with
  | zero =>
    intro i a x hn k0 k1
    refine w_iload dX11_isNumber_119 rfl ?_
    refine w_aload_n dX11_isNumber_121 rfl rfl ?_
    refine u_get (k := 43) (by decide) q dX11_isNumber_122 fX11_223 ?_
    refine w_icmp_ge (tgt := 182) dX11_isNumber_125 (by decide) (fun c_125 => ?_) (fun c_125 => absurd c_125 (not_not_intro (by rw [e3]; exact nI_le (by omega) (by omega))))
    refine w_aload_n dX11_isNumber_182 rfl rfl ?_
    refine w_iload_n dX11_isNumber_183 rfl rfl ?_
    refine w_if_eq (tgt := 193) dX11_isNumber_184 (by decide) (fun c_184 => ?_) (fun c_184 => ?_)
    · refine w_iload dX11_isNumber_193 rfl ?_
      refine u_put (k := 44) (by decide) f q dX11_isNumber_195 fX11_232 (fun h1 f1 q1 => ?_)
      refine w_iconst dX11_isNumber_198 (v := 1) (by decide) ?_
      refine w_iret dX11_isNumber_199 (fun _ e => by cases e; decide) ?_
      refine k1 a rfl _ f1 ?_
      first | rw [if_pos c_184]; exact q1 | rw [if_neg c_184]; exact q1
    · refine w_iload dX11_isNumber_187 rfl ?_
      refine w_ineg dX11_isNumber_189 ?_
      refine w_goto (tgt := 195) dX11_isNumber_190 (by decide) ?_
      refine u_put (k := 44) (by decide) f q dX11_isNumber_195 fX11_232 (fun h2 f2 q2 => ?_)
      refine w_iconst dX11_isNumber_198 (v := 1) (by decide) ?_
      refine w_iret dX11_isNumber_199 (fun _ e => by cases e; decide) ?_
      refine k1 a rfl _ f2 ?_
      first | rw [if_pos c_184]; exact q2 | rw [if_neg c_184]; exact q2
  | succ m ih =>
    intro i a x hn k0 k1
    have fg := b_fg10 (hB.b i)
    refine w_iload dX11_isNumber_119 rfl ?_
    refine w_aload_n dX11_isNumber_121 rfl rfl ?_
    refine u_get (k := 43) (by decide) q dX11_isNumber_122 fX11_223 ?_
    refine w_icmp_ge (tgt := 182) dX11_isNumber_125 (by decide) (fun c_125 => absurd c_125 (by rw [e3]; exact nI_ge (by omega) (by omega))) (fun c_125 => ?_)
    refine w_aload_n dX11_isNumber_128 rfl rfl ?_
    refine w_iload dX11_isNumber_129 rfl ?_
    refine w_v1 (d2 := 0) (L2 := 0) dX11_isNumber_131 vX11_205 rfl (q.1.lt (by decide)) rfl (by decide) (Nat.le_of_ble_eq_true rfl) (by decide) (by decide) ?_
    refine T_sign (by omega) q ?_
    refine k_i rfl ?_
    refine w_s1 (d2 := 1) (L2 := 20) dX11_isNumber_134 vX11_229 rfl (by decide) (Nat.le_of_ble_eq_true rfl) (by decide) (by decide) ?_
    refine T_fgr ?_
    refine k_i rfl ?_
    refine w_istore dX11_isNumber_137 (by decide) ?_
    refine w_iload dX11_isNumber_139 rfl ?_
    refine w_if_lt (tgt := 155) dX11_isNumber_141 (by decide) (fun c_141 => ?_) (fun c_141 => ?_)
    · refine w_iconst dX11_isNumber_155 (v := 0) (by decide) ?_
      refine w_iret dX11_isNumber_156 (fun _ e => by cases e; decide) ?_
      exact k0 (by rw [dgS, if_neg (fg.1.mp (Or.inl c_141))])
    · refine w_iload_n dX11_isNumber_144 rfl rfl ?_
      refine w_if_ne (tgt := 157) dX11_isNumber_145 (by decide) (fun c_145 => absurd c_145 (by decide)) (fun c_145 => ?_)
      refine w_iload dX11_isNumber_148 rfl ?_
      refine w_bipush dX11_isNumber_150 (v := 9) (by decide) ?_
      refine w_icmp_le (tgt := 157) dX11_isNumber_152 (by decide) (fun c_152 => ?_) (fun c_152 => ?_)
      · refine w_iload dX11_isNumber_157 rfl ?_
        refine w_iload_n dX11_isNumber_159 rfl rfl ?_
        refine w_if_eq (tgt := 168) dX11_isNumber_160 (by decide) (fun c_160 => ?_) (fun c_160 => absurd c_160 (by decide))
        refine w_bipush dX11_isNumber_168 (v := 10) (by decide) ?_
        refine w_imul dX11_isNumber_170 ?_
        refine w_iload dX11_isNumber_171 rfl ?_
        refine w_iadd dX11_isNumber_173 ?_
        refine w_istore dX11_isNumber_174 (by decide) ?_
        refine w_iinc (v := (nI (i + 1))) dX11_isNumber_176 rfl (nI_1 i) (by decide) ?_
        refine w_goto (tgt := 119) dX11_isNumber_179 (by decide) ?_
        have dl : dgI (bT T i) < 10 := Decidable.not_not.mp (fun g => (fg.1.mpr g).elim c_141 (fun y => absurd c_152 (Int32.not_le.mpr y)))
        rw [fg.2 c_141]
        exact ih (i + 1) _ _ (by omega) (fun e9 => k0 (by rw [dgS, if_pos dl]; exact e9)) (fun v e9 => k1 v (by rw [dgS, if_pos dl]; exact e9))
      · refine w_iconst dX11_isNumber_155 (v := 0) (by decide) ?_
        refine w_iret dX11_isNumber_156 (fun _ e => by cases e; decide) ?_
        exact k0 (by rw [dgS, if_neg (fg.1.mp (Or.inr (le_not c_152)))])

set_option maxRecDepth 20000 in
set_option maxHeartbeats 4000000 in
theorem L_in4d {X : Nat × (Nat → Int32)} {h0 h : PH} {Q : Option Value → PH → Prop} {T : List Int32} {ψ : Nat → Nat → Int32} {s : Nat} (hB : Byt T) (hs : s < T.length) (hw : s < wd1 T s) (e2 : ψ 25 42 = nI s) (e3 : ψ 25 43 = nI (wd1 T s)) (f : Fu h0 h) (q : RU h T ψ) (hn : nbS T s = 10) (k0 : numS T s (wd1 T s) = none → Q (some (.int 0)) h) (k1 : ∀ v, numS T s (wd1 T s) = some v → ∀ h', Fu h0 h' → RU h' T (uP ψ 25 44 v) → Q (some (.int 1)) h') (hj : njS T s ≤ wd1 T s) {x4 x5 x6 x7 : Option Value} : WP X mX11_isNumber 2 41 82 [some (.ref 25), some (.int (nI (njS T s))), some (.int 0), some (.int (if bT T (niS T s) = 45 then 1 else 0)), x4, x5, x6, x7] [] h Q := by
  have hl := q.2.1.1
  have w9 := wd1_p (Nat.le_of_lt hs)
  refine w_aload_n dX11_isNumber_82 rfl rfl ?_
  refine u_get (k := 43) (by decide) q dX11_isNumber_83 fX11_223 ?_
  refine w_iload_n dX11_isNumber_86 rfl rfl ?_
  refine w_isub dX11_isNumber_87 ?_
  refine w_istore dX11_isNumber_88 (by decide) ?_
  refine w_iload dX11_isNumber_90 rfl ?_
  refine w_iconst dX11_isNumber_92 (v := 1) (by decide) ?_
  refine w_icmp_lt (tgt := 111) dX11_isNumber_93 (by decide) (fun c_93 => ?_) (fun c_93 => ?_)
  · rw [e3, nI_sub hj, show (1 : Int32) = nI 1 from rfl, nI_ltI (by omega) (by decide)] at c_93
    refine w_iconst dX11_isNumber_111 (v := 0) (by decide) ?_
    refine w_iret dX11_isNumber_112 (fun _ e => by cases e; decide) ?_
    exact k0 (num_l (by omega))
  · rw [e3, nI_sub hj, show (1 : Int32) = nI 1 from rfl, nI_ltI (by omega) (by decide)] at c_93
    refine w_iload dX11_isNumber_96 rfl ?_
    refine w_iload_n dX11_isNumber_98 rfl rfl ?_
    refine w_if_eq (tgt := 106) dX11_isNumber_99 (by decide) (fun c_99 => ?_) (fun c_99 => absurd c_99 (by decide))
    refine w_bipush dX11_isNumber_106 (v := 6) (by decide) ?_
    refine w_icmp_le (tgt := 113) dX11_isNumber_108 (by decide) (fun c_108 => ?_) (fun c_108 => ?_)
    · rw [e3, nI_sub hj, show (6 : Int32) = nI 6 from rfl, nI_leI (by omega) (by decide)] at c_108
      refine w_iconst dX11_isNumber_113 (v := 0) (by decide) ?_
      refine w_istore dX11_isNumber_114 (by decide) ?_
      refine w_iload_n dX11_isNumber_116 rfl rfl ?_
      refine w_istore dX11_isNumber_117 (by decide) ?_
      have h9 : ¬ (if nbS T s = 16 then 5 else 6) < wd1 T s - njS T s := by rw [hn]; rw [if_neg (by decide)]; omega
      have h8 : ¬ wd1 T s ≤ njS T s := by omega
      exact L_in5d (s := s) (z := if bT T (niS T s) = 45 then 1 else 0) hB (by omega) e3 f q (wd1 T s - njS T s) (njS T s) 0 _ (by omega) (fun e9 => k0 (num_o (r := none) h8 h9 (by rw [hn]; exact e9))) (fun v e9 h' f' q' => k1 _ (num_o (r := some v) h8 h9 (by rw [hn]; exact e9)) h' f' (by by_cases c : bT T (niS T s) = 45 <;> simpa [c] using q'))
    · rw [e3, nI_sub hj, show (6 : Int32) = nI 6 from rfl, nI_leI (by omega) (by decide)] at c_108
      refine w_iconst dX11_isNumber_111 (v := 0) (by decide) ?_
      refine w_iret dX11_isNumber_112 (fun _ e => by cases e; decide) ?_
      exact k0 (num_m (by rw [hn]; rw [if_neg (by decide)]; omega))

set_option maxRecDepth 20000 in
set_option maxHeartbeats 4000000 in
theorem L_in3d {X : Nat × (Nat → Int32)} {h0 h : PH} {Q : Option Value → PH → Prop} {T : List Int32} {ψ : Nat → Nat → Int32} {s : Nat} (hB : Byt T) (hs : s < T.length) (hw : s < wd1 T s) (e2 : ψ 25 42 = nI s) (e3 : ψ 25 43 = nI (wd1 T s)) (f : Fu h0 h) (q : RU h T ψ) (hn : nbS T s = 10) (k0 : numS T s (wd1 T s) = none → Q (some (.int 0)) h) (k1 : ∀ v, numS T s (wd1 T s) = some v → ∀ h', Fu h0 h' → RU h' T (uP ψ 25 44 v) → Q (some (.int 1)) h') {x3 x4 x5 x6 x7 : Option Value} : WP X mX11_isNumber 2 41 51 [some (.ref 25), some (.int (nI (niS T s))), some (.int 0), x3, x4, x5, x6, x7] [] h Q := by
  have hl := q.2.1.1
  have w9 := wd1_p (Nat.le_of_lt hs)
  have n9 := ni_le hw
  have k9 := fun hj => L_in4d (X := X) (x4 := x4) (x5 := x5) (x6 := x6) (x7 := x7) hB hs hw e2 e3 f q hn k0 k1 hj
  refine w_aload_n dX11_isNumber_51 rfl rfl ?_
  refine w_iload_n dX11_isNumber_52 rfl rfl ?_
  refine w_v1 (d2 := 0) (L2 := 0) dX11_isNumber_53 vX11_205 rfl (q.1.lt (by decide)) rfl (by decide) (Nat.le_of_ble_eq_true rfl) (by decide) (by decide) ?_
  refine T_sign (by omega) q ?_
  refine k_i rfl ?_
  refine w_bipush dX11_isNumber_56 (v := 45) (by decide) ?_
  refine w_icmp_ne (tgt := 73) dX11_isNumber_58 (by decide) (fun c_58 => ?_) (fun c_58 => ?_)
  · refine w_iconst dX11_isNumber_73 (v := 0) (by decide) ?_
    refine w_istore_n dX11_isNumber_74 rfl (by decide) ?_
    refine w_iload_n dX11_isNumber_75 rfl rfl ?_
    refine w_if_eq (tgt := 82) dX11_isNumber_76 (by decide) (fun c_76 => ?_) (fun c_76 => absurd c_76 (by decide))
    have ej : njS T s = niS T s := by unfold njS; rw [if_neg c_58]
    rw [if_neg c_58, ej] at k9; exact k9 n9
  · refine w_iload_n dX11_isNumber_61 rfl rfl ?_
    refine w_aload_n dX11_isNumber_62 rfl rfl ?_
    refine u_get (k := 43) (by decide) q dX11_isNumber_63 fX11_223 ?_
    refine w_icmp_ge (tgt := 73) dX11_isNumber_66 (by decide) (fun c_66 => absurd c_66 (by rw [e3]; exact nI_ge (ni_45 hs hw c_58) (by omega))) (fun c_66 => ?_)
    refine w_iconst dX11_isNumber_69 (v := 1) (by decide) ?_
    refine w_goto (tgt := 74) dX11_isNumber_70 (by decide) ?_
    refine w_istore_n dX11_isNumber_74 rfl (by decide) ?_
    refine w_iload_n dX11_isNumber_75 rfl rfl ?_
    refine w_if_eq (tgt := 82) dX11_isNumber_76 (by decide) (fun c_76 => absurd c_76 (by decide)) (fun c_76 => ?_)
    refine w_iinc (v := (nI (niS T s + 1))) dX11_isNumber_79 rfl (nI_1 _) (by decide) ?_
    have ej : njS T s = niS T s + 1 := by unfold njS; rw [if_pos c_58]
    rw [if_pos c_58, ej] at k9; exact k9 (ni_45 hs hw c_58)

set_option maxRecDepth 20000 in
set_option maxHeartbeats 4000000 in
theorem L_in2d {X : Nat × (Nat → Int32)} {h0 h : PH} {Q : Option Value → PH → Prop} {T : List Int32} {ψ : Nat → Nat → Int32} {s : Nat} (hB : Byt T) (hs : s < T.length) (hw : s < wd1 T s) (e2 : ψ 25 42 = nI s) (e3 : ψ 25 43 = nI (wd1 T s)) (f : Fu h0 h) (q : RU h T ψ) (hn : nbS T s = 10) (k0 : numS T s (wd1 T s) = none → Q (some (.int 0)) h) (k1 : ∀ v, numS T s (wd1 T s) = some v → ∀ h', Fu h0 h' → RU h' T (uP ψ 25 44 v) → Q (some (.int 1)) h') {x3 x4 x5 x6 x7 : Option Value} : WP X mX11_isNumber 2 41 34 [some (.ref 25), some (.int (nI s)), some (.int 0), x3, x4, x5, x6, x7] [] h Q := by
  have hl := q.2.1.1
  have k9 := L_in3d (X := X) (x3 := x3) (x4 := x4) (x5 := x5) (x6 := x6) (x7 := x7) hB hs hw e2 e3 f q hn k0 k1
  refine w_iload_n dX11_isNumber_34 rfl rfl ?_
  refine w_if_ne (tgt := 48) dX11_isNumber_35 (by decide) (fun c_35 => absurd c_35 (by decide)) (fun c_35 => ?_)
  refine w_aload_n dX11_isNumber_38 rfl rfl ?_
  refine w_iload_n dX11_isNumber_39 rfl rfl ?_
  refine w_v1 (d2 := 0) (L2 := 0) dX11_isNumber_40 vX11_205 rfl (q.1.lt (by decide)) rfl (by decide) (Nat.le_of_ble_eq_true rfl) (by decide) (by decide) ?_
  refine T_sign (by omega) q ?_
  refine k_i rfl ?_
  refine w_bipush dX11_isNumber_43 (v := 35) (by decide) ?_
  refine w_icmp_ne (tgt := 51) dX11_isNumber_45 (by decide) (fun c_45 => ?_) (fun c_45 => ?_)
  · rw [show niS T s = s by unfold niS; rw [hn, if_neg (by decide), if_neg c_45]] at k9; exact k9
  · refine w_iinc (v := (nI (s + 1))) dX11_isNumber_48 rfl (nI_1 _) (by decide) ?_
    rw [show niS T s = s + 1 by unfold niS; rw [hn, if_neg (by decide), if_pos c_45]] at k9; exact k9

set_option maxRecDepth 20000 in
set_option maxHeartbeats 4000000 in
/-- isNumber() -/
theorem T_isNum {X : Nat × (Nat → Int32)} {h0 h : PH} {Q : Option Value → PH → Prop} {T : List Int32} {ψ : Nat → Nat → Int32} {s : Nat} (hB : Byt T) (hs : s ≤ T.length) (t : RTK T s ψ) (f : Fu h0 h) (q : RU h T ψ) (k0 : ¬ uC T s = 2 → Q (some (.int 0)) h) (k1 : uC T s = 2 → ∀ h', Fu h0 h' → RU h' T (uP ψ 25 44 (uV T s)) → Q (some (.int 1)) h') : WP X mX11_isNumber 2 41 0 (en 8 [.ref 25]) [] h Q := by
  refine w_aload_n dX11_isNumber_0 rfl rfl ?_
  refine u_get (k := 41) (by decide) q dX11_isNumber_1 fX11_214 ?_
  refine w_iconst dX11_isNumber_4 (v := 1) (by decide) ?_
  refine w_icmp_eq (tgt := 10) dX11_isNumber_5 (by decide) (fun c_5 => ?_) (fun c_5 => ?_)
  · rw [t.2.1, rk_i] at c_5
    have hl := q.2.1.1
    have hs2 := sg_in c_5
    have hw := wd1_lt hs2 c_5
    have sw := sg_w c_5
    have we := wk_e hB hs2 c_5
    have e3 : ψ 25 43 = nI (wd1 T s) := by rw [t.2.2.2.1, sw.2]
    have kn : numS T s (wd1 T s) = none → Q (some (.int 0)) h := fun e => k0 (fun e9 => by rw [sw.1, we.2.1, e] at e9; cases e9)
    have ky : ∀ v, numS T s (wd1 T s) = some v → ∀ h', Fu h0 h' → RU h' T (uP ψ 25 44 v) → Q (some (.int 1)) h' := fun v e h' f' q' => by
      have c2 : uC T s = 2 := by rw [sw.1, we.2.1, e]; rfl
      have ev : uV T s = v := by unfold uV; rw [c2, e]; rfl
      exact k1 c2 h' f' (by rw [ev]; exact q')
    refine w_aload_n dX11_isNumber_10 rfl rfl ?_
    refine u_get (k := 42) (by decide) q dX11_isNumber_11 fX11_211 ?_
    refine w_istore_n dX11_isNumber_14 rfl (by decide) ?_
    refine w_aload_n dX11_isNumber_15 rfl rfl ?_
    refine w_iload_n dX11_isNumber_16 rfl rfl ?_
    refine w_v1 (d2 := 0) (L2 := 0) dX11_isNumber_17 vX11_205 rfl (q.1.lt (by decide)) rfl (by decide) (Nat.le_of_ble_eq_true rfl) (by decide) (by decide) ?_
    rw [t.2.2.1]
    refine T_sign (by omega) q ?_
    refine k_i rfl ?_
    refine w_s1 (d2 := 0) (L2 := 0) dX11_isNumber_20 vX11_193 rfl (by decide) (Nat.le_of_ble_eq_true rfl) (by decide) (by decide) ?_
    refine T_gr ?_
    refine k_i rfl ?_
    refine w_bipush dX11_isNumber_23 (v := 88) (by decide) ?_
    refine w_icmp_ne (tgt := 32) dX11_isNumber_25 (by decide) (fun c_25 => ?_) (fun c_25 => ?_)
    · rw [b_X (hB.b s)] at c_25
      refine w_iconst dX11_isNumber_32 (v := 0) (by decide) ?_
      refine w_istore_n dX11_isNumber_33 rfl (by decide) ?_
      exact L_in2d hB hs2 hw t.2.2.1 e3 f q (by unfold nbS; rw [if_neg (fun g => c_25 (Or.inl g)), if_neg (fun g => c_25 (Or.inr g))]) kn ky
    · rw [b_X (hB.b s)] at c_25
      refine w_iconst dX11_isNumber_28 (v := 1) (by decide) ?_
      refine w_goto (tgt := 33) dX11_isNumber_29 (by decide) ?_
      refine w_istore_n dX11_isNumber_33 rfl (by decide) ?_
      exact L_in2x hB hs2 hw t.2.2.1 e3 f q (nb_16 c_25) kn ky
  · rw [t.2.1, rk_i] at c_5
    refine w_iconst dX11_isNumber_8 (v := 0) (by decide) ?_
    refine w_iret dX11_isNumber_9 (fun _ e => by cases e; decide) ?_
    exact k0 (fun e => by have := uC_z (Decidable.not_not.mp c_5); rw [e] at this; revert this; decide)

set_option maxRecDepth 20000 in
set_option maxHeartbeats 4000000 in
/-- isRegister() -/
theorem T_isReg {X : Nat × (Nat → Int32)} {h : PH} {Q : Option Value → PH → Prop} {T : List Int32} {ψ : Nat → Nat → Int32} {s : Nat} (hB : Byt T) (hs : s ≤ T.length) (t : RTK T s ψ) (q : RU h T ψ) (k0 : ¬ uC T s = 3 → Q (some (.int 0)) h) (k1 : uC T s = 3 → uV T s = bT T (s + 1) - 48 → Q (some (.int 1)) h) : WP X mX11_isRegister 1 21 0 (en 1 [.ref 25]) [] h Q := by
  refine w_aload_n dX11_isRegister_0 rfl rfl ?_
  refine u_get (k := 41) (by decide) q dX11_isRegister_1 fX11_214 ?_
  refine w_iconst dX11_isRegister_4 (v := 1) (by decide) ?_
  refine w_icmp_ne (tgt := 71) dX11_isRegister_5 (by decide) (fun c_5 => ?_) (fun c_5 => ?_)
  · rw [t.2.1, rk_i] at c_5
    refine w_iconst dX11_isRegister_71 (v := 0) (by decide) ?_
    refine w_iret dX11_isRegister_72 (fun _ e => by cases e; decide) ?_
    exact k0 (fun e => by have := uC_z (Decidable.not_not.mp c_5); rw [e] at this; revert this; decide)
  · rw [t.2.1, rk_i] at c_5
    have hl := q.2.1.1
    have hs2 := sg_in c_5
    have hw := wd1_lt hs2 c_5
    have w9 := wd1_p hs
    have sw := sg_w c_5
    have we := wk_e hB hs2 c_5
    have e3 : ψ 25 43 = nI (wd1 T s) := by rw [t.2.2.2.1, sw.2]
    have kn : rgS T s (wd1 T s - s) = false → Q (some (.int 0)) h := fun e => k0 (fun e9 => by rw [sw.1, we.2.2.1, uR_e hB, if_neg (by rw [e]; decide)] at e9; cases e9)
    have ky : rgS T s (wd1 T s - s) = true → Q (some (.int 1)) h := fun e => by
      have c3 : uC T s = 3 := by rw [sw.1, we.2.2.1, uR_e hB, if_pos e]; rfl
      exact k1 c3 (by unfold uV; rw [c3, uR_e hB, if_pos e]; rfl)
    unfold rgS at kn ky
    refine w_aload_n dX11_isRegister_8 rfl rfl ?_
    refine u_get (k := 43) (by decide) q dX11_isRegister_9 fX11_223 ?_
    refine w_aload_n dX11_isRegister_12 rfl rfl ?_
    refine u_get (k := 42) (by decide) q dX11_isRegister_13 fX11_211 ?_
    refine w_isub dX11_isRegister_16 ?_
    refine w_iconst dX11_isRegister_17 (v := 2) (by decide) ?_
    refine w_icmp_ne (tgt := 71) dX11_isRegister_18 (by decide) (fun c_18 => ?_) (fun c_18 => ?_)
    · rw [e3, t.2.2.1, nI_sub w9.1, show (2 : Int32) = nI 2 from rfl, nI_eq (by omega) (by decide)] at c_18
      refine w_iconst dX11_isRegister_71 (v := 0) (by decide) ?_
      refine w_iret dX11_isRegister_72 (fun _ e => by cases e; decide) ?_
      exact kn (by simp [c_18])
    · rw [e3, t.2.2.1, nI_sub w9.1, show (2 : Int32) = nI 2 from rfl, nI_eq (by omega) (by decide)] at c_18
      refine w_aload_n dX11_isRegister_21 rfl rfl ?_
      refine w_aload_n dX11_isRegister_22 rfl rfl ?_
      refine u_get (k := 42) (by decide) q dX11_isRegister_23 fX11_211 ?_
      refine w_v1 (d2 := 0) (L2 := 0) dX11_isRegister_26 vX11_205 rfl (q.1.lt (by decide)) rfl (by decide) (Nat.le_of_ble_eq_true rfl) (by decide) (by decide) ?_
      rw [t.2.2.1]
      refine T_sign (by omega) q ?_
      refine k_i rfl ?_
      refine w_s1 (d2 := 0) (L2 := 0) dX11_isRegister_29 vX11_193 rfl (by decide) (Nat.le_of_ble_eq_true rfl) (by decide) (by decide) ?_
      refine T_gr ?_
      refine k_i rfl ?_
      refine w_bipush dX11_isRegister_32 (v := 82) (by decide) ?_
      refine w_icmp_ne (tgt := 71) dX11_isRegister_34 (by decide) (fun c_34 => ?_) (fun c_34 => ?_)
      · refine w_iconst dX11_isRegister_71 (v := 0) (by decide) ?_
        refine w_iret dX11_isRegister_72 (fun _ e => by cases e; decide) ?_
        exact kn (by simp [c_34])
      · refine w_aload_n dX11_isRegister_37 rfl rfl ?_
        refine w_aload_n dX11_isRegister_38 rfl rfl ?_
        refine u_get (k := 42) (by decide) q dX11_isRegister_39 fX11_211 ?_
        refine w_iconst dX11_isRegister_42 (v := 1) (by decide) ?_
        refine w_iadd dX11_isRegister_43 ?_
        refine w_v1 (d2 := 0) (L2 := 0) dX11_isRegister_44 vX11_205 rfl (q.1.lt (by decide)) rfl (by decide) (Nat.le_of_ble_eq_true rfl) (by decide) (by decide) ?_
        rw [t.2.2.1, nI_1]
        refine T_sign (by omega) q ?_
        refine k_i rfl ?_
        refine w_bipush dX11_isRegister_47 (v := 48) (by decide) ?_
        refine w_icmp_lt (tgt := 71) dX11_isRegister_49 (by decide) (fun c_49 => ?_) (fun c_49 => ?_)
        · refine w_iconst dX11_isRegister_71 (v := 0) (by decide) ?_
          refine w_iret dX11_isRegister_72 (fun _ e => by cases e; decide) ?_
          exact kn (by simp [c_49])
        · refine w_aload_n dX11_isRegister_52 rfl rfl ?_
          refine w_aload_n dX11_isRegister_53 rfl rfl ?_
          refine u_get (k := 42) (by decide) q dX11_isRegister_54 fX11_211 ?_
          refine w_iconst dX11_isRegister_57 (v := 1) (by decide) ?_
          refine w_iadd dX11_isRegister_58 ?_
          refine w_v1 (d2 := 0) (L2 := 0) dX11_isRegister_59 vX11_205 rfl (q.1.lt (by decide)) rfl (by decide) (Nat.le_of_ble_eq_true rfl) (by decide) (by decide) ?_
          rw [t.2.2.1, nI_1]
          refine T_sign (by omega) q ?_
          refine k_i rfl ?_
          refine w_bipush dX11_isRegister_62 (v := 55) (by decide) ?_
          refine w_icmp_gt (tgt := 71) dX11_isRegister_64 (by decide) (fun c_64 => ?_) (fun c_64 => ?_)
          · refine w_iconst dX11_isRegister_71 (v := 0) (by decide) ?_
            refine w_iret dX11_isRegister_72 (fun _ e => by cases e; decide) ?_
            exact kn (by simp [c_64])
          · refine w_iconst dX11_isRegister_67 (v := 1) (by decide) ?_
            refine w_goto (tgt := 72) dX11_isRegister_68 (by decide) ?_
            refine w_iret dX11_isRegister_72 (fun _ e => by cases e; decide) ?_
            exact ky (by simp [c_18, c_34, c_49, c_64])

