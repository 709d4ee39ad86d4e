/-! THE REFERENCE's ASSEMBLER: instructions, by name -/
theorem tr_b : ∀ n, n < 256 → (61440 : Int32) + nI n = 61440 ||| (nI n &&& 255) := by decide +kernel
theorem tr_e {v : Int32} (h1 : ¬ v < 0) (h2 : ¬ 255 < v) : (61440 : Int32) + v = 61440 ||| (v &&& 255) := by
  obtain ⟨j, hj, e⟩ := nI_of2 (M := 255) (n := 255) rfl h1 (Int32.not_lt.mp h2)
  rw [e]; exact tr_b j (by omega)
set_option maxRecDepth 20000 in
set_option maxHeartbeats 4000000 in
theorem T_in0 {X : Nat × (Nat → Int32)} {h0 h : PH} {Q : Option Value → PH → Prop} {T : List Int32} {ψ : Nat → Nat → Int32} {sec : Bool} {a : AS} (ma : MA T sec a ψ) (hb : a.2.1 = true) {p : Nat} (hB : Byt T) (hp : p ≤ T.length) (np : ψ 25 40 = nI p) (f : Fu h0 h) (q : RU h T ψ) (kF : ∀ e, shS T (laS sec a.2.2.2.2.2) (a.2.2.2.1 + a.2.2.2.2.1.length) [68, 65, 83] p 4096 = .inl e → RF h0 T ψ Q e.1 e.2) (kG : ∀ r, shS T (laS sec a.2.2.2.2.2) (a.2.2.2.1 + a.2.2.2.2.1.length) [68, 65, 83] p 4096 = .inr r → RG h0 T ψ Q r.1 (fun y => sec = true → y = r.2)) : WP X mX11_instruction 8 178 0 (en 2 [.ref 25, .int 0]) [] h Q := by
  have hx := nx_p hp
  have h1 := uE_le hx.2
  refine w_iload_n dX11_instruction_0 rfl rfl ?_
  refine w_bipush dX11_instruction_1 (v := 22) (by decide) ?_
  refine w_icmp_lt (tgt := 31) dX11_instruction_3 (by decide) (fun c_3 => ?_) (fun c_3 => absurd c_3 (by decide))
  refine w_iload_n dX11_instruction_31 rfl rfl ?_
  refine w_bipush dX11_instruction_32 (v := 16) (by decide) ?_
  refine w_icmp_lt (tgt := 51) dX11_instruction_34 (by decide) (fun c_34 => ?_) (fun c_34 => absurd c_34 (by decide))
  refine w_iload_n dX11_instruction_51 rfl rfl ?_
  refine w_tbE (off := 72) (tgt := 124) (show (0 : Int32) = 0 from rfl) dX11_instruction_52 (by decide) (by decide) (by decide) (by decide) ?_
  refine w_aload_n dX11_instruction_124 rfl rfl ?_
  refine w_sipush dX11_instruction_125 (v := 4096) (by decide) ?_
  refine w_v1 (d2 := 5) (L2 := 102) dX11_instruction_128 vX11_344 rfl (q.1.lt (by decide)) rfl (by decide) (Nat.le_of_ble_eq_true rfl) (by decide) (by decide) ?_
  refine T_three (w0 := 4096) ma hb (fun _ => rfl) hB hp np f q (fun e e1 ha φa fa qa z1 z2 z3 => ?_) (fun r e1 ha φa fa qa z1 z2 z3 => ?_)
  · refine k_i rfl ?_
    refine w_iret dX11_instruction_131 (fun _ e => by cases e; decide) ?_
    exact kF e e1 _ _ fa qa z1 z2 z3
  · refine k_i rfl ?_
    refine w_iret dX11_instruction_131 (fun _ e => by cases e; decide) ?_
    exact kG r e1 _ _ fa qa z1 z2 z3

set_option maxRecDepth 20000 in
set_option maxHeartbeats 4000000 in
theorem T_in1 {X : Nat × (Nat → Int32)} {h0 h : PH} {Q : Option Value → PH → Prop} {T : List Int32} {ψ : Nat → Nat → Int32} {sec : Bool} {a : AS} (ma : MA T sec a ψ) (hb : a.2.1 = true) {p : Nat} (hB : Byt T) (hp : p ≤ T.length) (np : ψ 25 40 = nI p) (f : Fu h0 h) (q : RU h T ψ) (kF : ∀ e, shS T (laS sec a.2.2.2.2.2) (a.2.2.2.1 + a.2.2.2.2.1.length) [68, 65, 83] p 20480 = .inl e → RF h0 T ψ Q e.1 e.2) (kG : ∀ r, shS T (laS sec a.2.2.2.2.2) (a.2.2.2.1 + a.2.2.2.2.1.length) [68, 65, 83] p 20480 = .inr r → RG h0 T ψ Q r.1 (fun y => sec = true → y = r.2)) : WP X mX11_instruction 8 178 0 (en 2 [.ref 25, .int 1]) [] h Q := by
  have hx := nx_p hp
  have h1 := uE_le hx.2
  refine w_iload_n dX11_instruction_0 rfl rfl ?_
  refine w_bipush dX11_instruction_1 (v := 22) (by decide) ?_
  refine w_icmp_lt (tgt := 31) dX11_instruction_3 (by decide) (fun c_3 => ?_) (fun c_3 => absurd c_3 (by decide))
  refine w_iload_n dX11_instruction_31 rfl rfl ?_
  refine w_bipush dX11_instruction_32 (v := 16) (by decide) ?_
  refine w_icmp_lt (tgt := 51) dX11_instruction_34 (by decide) (fun c_34 => ?_) (fun c_34 => absurd c_34 (by decide))
  refine w_iload_n dX11_instruction_51 rfl rfl ?_
  refine w_tbE (off := 80) (tgt := 132) (show (1 : Int32) = 1 from rfl) dX11_instruction_52 (by decide) (by decide) (by decide) (by decide) ?_
  refine w_aload_n dX11_instruction_132 rfl rfl ?_
  refine w_sipush dX11_instruction_133 (v := 20480) (by decide) ?_
  refine w_v1 (d2 := 5) (L2 := 102) dX11_instruction_136 vX11_344 rfl (q.1.lt (by decide)) rfl (by decide) (Nat.le_of_ble_eq_true rfl) (by decide) (by decide) ?_
  refine T_three (w0 := 20480) ma hb (fun _ => rfl) hB hp np f q (fun e e1 ha φa fa qa z1 z2 z3 => ?_) (fun r e1 ha φa fa qa z1 z2 z3 => ?_)
  · refine k_i rfl ?_
    refine w_iret dX11_instruction_139 (fun _ e => by cases e; decide) ?_
    exact kF e e1 _ _ fa qa z1 z2 z3
  · refine k_i rfl ?_
    refine w_iret dX11_instruction_139 (fun _ e => by cases e; decide) ?_
    exact kG r e1 _ _ fa qa z1 z2 z3

set_option maxRecDepth 20000 in
set_option maxHeartbeats 4000000 in
theorem T_in2 {X : Nat × (Nat → Int32)} {h0 h : PH} {Q : Option Value → PH → Prop} {T : List Int32} {ψ : Nat → Nat → Int32} {sec : Bool} {a : AS} (ma : MA T sec a ψ) (hb : a.2.1 = true) {p : Nat} (hB : Byt T) (hp : p ≤ T.length) (np : ψ 25 40 = nI p) (f : Fu h0 h) (q : RU h T ψ) (kF : ∀ e, shS T (laS sec a.2.2.2.2.2) (a.2.2.2.1 + a.2.2.2.2.1.length) [68, 65] p 36927 = .inl e → RF h0 T ψ Q e.1 e.2) (kG : ∀ r, shS T (laS sec a.2.2.2.2.2) (a.2.2.2.1 + a.2.2.2.2.1.length) [68, 65] p 36927 = .inr r → RG h0 T ψ Q r.1 (fun y => sec = true → y = r.2)) : WP X mX11_instruction 8 178 0 (en 2 [.ref 25, .int 2]) [] h Q := by
  have hx := nx_p hp
  have h1 := uE_le hx.2
  refine w_iload_n dX11_instruction_0 rfl rfl ?_
  refine w_bipush dX11_instruction_1 (v := 22) (by decide) ?_
  refine w_icmp_lt (tgt := 31) dX11_instruction_3 (by decide) (fun c_3 => ?_) (fun c_3 => absurd c_3 (by decide))
  refine w_iload_n dX11_instruction_31 rfl rfl ?_
  refine w_bipush dX11_instruction_32 (v := 16) (by decide) ?_
  refine w_icmp_lt (tgt := 51) dX11_instruction_34 (by decide) (fun c_34 => ?_) (fun c_34 => absurd c_34 (by decide))
  refine w_iload_n dX11_instruction_51 rfl rfl ?_
  refine w_tbE (off := 88) (tgt := 140) (show (2 : Int32) = 2 from rfl) dX11_instruction_52 (by decide) (by decide) (by decide) (by decide) ?_
  refine w_aload_n dX11_instruction_140 rfl rfl ?_
  refine w_bipush dX11_instruction_141 (v := 9) (by decide) ?_
  refine w_ldcw dX11_instruction_143 kX11_347 ?_
  refine w_v2 (d2 := 4) (L2 := 80) dX11_instruction_146 vX11_348 rfl (q.1.lt (by decide)) rfl rfl (by decide) (Nat.le_of_ble_eq_true rfl) (by decide) (by decide) ?_
  refine T_taken (sec := sec) (w0 := 36927) (fun _ => rfl) hB hp np f q (fun e e1 ha φa fa qa y1a y2a y3a => ?_) (fun xa e1 ha φa fa qa y1a y2a y3a => ?_)
  · refine k_i rfl ?_
    refine w_if_eq (tgt := 169) dX11_instruction_149 (by decide) (fun c_149 => ?_) (fun c_149 => absurd c_149 (by decide))
    refine w_iconst dX11_instruction_169 (v := 0) (by decide) ?_
    refine w_iret dX11_instruction_170 (fun _ e => by cases e; decide) ?_
    exact kF (e, nx T p) (by rw [shS, show opS T _ _ 68 (nx T p) 36927 = .inl e from e1]) _ _ fa qa y1a y2a y3a
  · refine k_i rfl ?_
    refine w_if_eq (tgt := 169) dX11_instruction_149 (by decide) (fun c_149 => absurd c_149 (by decide)) (fun c_149 => ?_)
    refine w_aload_n dX11_instruction_152 rfl rfl ?_
    refine w_bipush dX11_instruction_153 (v := 6) (by decide) ?_
    refine w_aload_n dX11_instruction_155 rfl rfl ?_
    refine u_get (k := 51) (by decide) qa dX11_instruction_156 fX11_331 ?_
    refine w_v2 (d2 := 4) (L2 := 80) dX11_instruction_159 vX11_348 rfl (qa.1.lt (by decide)) rfl rfl (by decide) (Nat.le_of_ble_eq_true rfl) (by decide) (by decide) ?_
    refine T_taken (sec := sec) (w0 := xa) y3a hB h1 y2a fa qa (fun e e2 hb φb fb qb y1b y2b y3b => ?_) (fun xb e2 hb φb fb qb y1b y2b y3b => ?_)
    · refine k_i rfl ?_
      refine w_if_eq (tgt := 169) dX11_instruction_162 (by decide) (fun c_162 => ?_) (fun c_162 => absurd c_162 (by decide))
      refine w_iconst dX11_instruction_169 (v := 0) (by decide) ?_
      refine w_iret dX11_instruction_170 (fun _ e => by cases e; decide) ?_
      exact kF (e, (nx T (uE T (nx T p)))) (by rw [shS, show opS T _ _ 68 (nx T p) 36927 = .inr xa from e1]; show shS T _ _ (65 :: []) _ xa = _; rw [shS, show opS T _ _ 65 (nx T (uE T (nx T p))) xa = .inl e from e2]) _ _ fb qb (y1a.ub.tr y1b) y2b y3b
    · refine k_i rfl ?_
      refine w_if_eq (tgt := 169) dX11_instruction_162 (by decide) (fun c_162 => absurd c_162 (by decide)) (fun c_162 => ?_)
      refine w_iconst dX11_instruction_165 (v := 1) (by decide) ?_
      refine w_goto (tgt := 170) dX11_instruction_166 (by decide) ?_
      refine w_iret dX11_instruction_170 (fun _ e => by cases e; decide) ?_
      exact kG (uE T (nx T (uE T (nx T p))), xb) (by rw [shS, show opS T _ _ 68 (nx T p) 36927 = .inr xa from e1]; show shS T _ _ (65 :: []) _ xa = _; rw [shS, show opS T _ _ 65 (nx T (uE T (nx T p))) xa = .inr xb from e2]; rfl) _ _ fb qb (y1a.tr y1b) y2b y3b

set_option maxRecDepth 20000 in
set_option maxHeartbeats 4000000 in
theorem T_in3 {X : Nat × (Nat → Int32)} {h0 h : PH} {Q : Option Value → PH → Prop} {T : List Int32} {ψ : Nat → Nat → Int32} {sec : Bool} {a : AS} (ma : MA T sec a ψ) (hb : a.2.1 = true) {p : Nat} (hB : Byt T) (hp : p ≤ T.length) (np : ψ 25 40 = nI p) (f : Fu h0 h) (q : RU h T ψ) (kF : ∀ e, shS T (laS sec a.2.2.2.2.2) (a.2.2.2.1 + a.2.2.2.2.1.length) [68, 87] p 8192 = .inl e → RF h0 T ψ Q e.1 e.2) (kG : ∀ r, shS T (laS sec a.2.2.2.2.2) (a.2.2.2.1 + a.2.2.2.2.1.length) [68, 87] p 8192 = .inr r → RG h0 T ψ Q r.1 (fun y => sec = true → y = r.2)) : WP X mX11_instruction 8 178 0 (en 2 [.ref 25, .int 3]) [] h Q := by
  have hx := nx_p hp
  have h1 := uE_le hx.2
  refine w_iload_n dX11_instruction_0 rfl rfl ?_
  refine w_bipush dX11_instruction_1 (v := 22) (by decide) ?_
  refine w_icmp_lt (tgt := 31) dX11_instruction_3 (by decide) (fun c_3 => ?_) (fun c_3 => absurd c_3 (by decide))
  refine w_iload_n dX11_instruction_31 rfl rfl ?_
  refine w_bipush dX11_instruction_32 (v := 16) (by decide) ?_
  refine w_icmp_lt (tgt := 51) dX11_instruction_34 (by decide) (fun c_34 => ?_) (fun c_34 => absurd c_34 (by decide))
  refine w_iload_n dX11_instruction_51 rfl rfl ?_
  refine w_tbE (off := 119) (tgt := 171) (show (3 : Int32) = 3 from rfl) dX11_instruction_52 (by decide) (by decide) (by decide) (by decide) ?_
  refine w_aload_n dX11_instruction_171 rfl rfl ?_
  refine w_bipush dX11_instruction_172 (v := 9) (by decide) ?_
  refine w_sipush dX11_instruction_174 (v := 8192) (by decide) ?_
  refine w_v2 (d2 := 4) (L2 := 80) dX11_instruction_177 vX11_348 rfl (q.1.lt (by decide)) rfl rfl (by decide) (Nat.le_of_ble_eq_true rfl) (by decide) (by decide) ?_
  refine T_taken (sec := sec) (w0 := 8192) (fun _ => rfl) hB hp np f q (fun e e1 ha φa fa qa y1a y2a y3a => ?_) (fun xa e1 ha φa fa qa y1a y2a y3a => ?_)
  · refine k_i rfl ?_
    refine w_if_eq (tgt := 200) dX11_instruction_180 (by decide) (fun c_180 => ?_) (fun c_180 => absurd c_180 (by decide))
    refine w_iconst dX11_instruction_200 (v := 0) (by decide) ?_
    refine w_iret dX11_instruction_201 (fun _ e => by cases e; decide) ?_
    exact kF (e, nx T p) (by rw [shS, show opS T _ _ 68 (nx T p) 8192 = .inl e from e1]) _ _ fa qa y1a y2a y3a
  · refine k_i rfl ?_
    refine w_if_eq (tgt := 200) dX11_instruction_180 (by decide) (fun c_180 => absurd c_180 (by decide)) (fun c_180 => ?_)
    refine w_aload_n dX11_instruction_183 rfl rfl ?_
    refine w_bipush dX11_instruction_184 (v := 9) (by decide) ?_
    refine w_aload_n dX11_instruction_186 rfl rfl ?_
    refine u_get (k := 51) (by decide) qa dX11_instruction_187 fX11_331 ?_
    refine w_v2 (d2 := 7) (L2 := 156) dX11_instruction_190 vX11_340 rfl (qa.1.lt (by decide)) rfl rfl (by decide) (Nat.le_of_ble_eq_true rfl) (by decide) (by decide) ?_
    refine T_mwh9 (w0 := xa) (ma.uv y1a) hb y3a hB h1 y2a fa qa (fun e e2 hb φb fb qb z1 z2 z3 => ?_) (fun xb e2 hb φb fb qb z1 z2 z3 => ?_)
    · refine k_i rfl ?_
      refine w_if_eq (tgt := 200) dX11_instruction_193 (by decide) (fun c_193 => ?_) (fun c_193 => absurd c_193 (by decide))
      refine w_iconst dX11_instruction_200 (v := 0) (by decide) ?_
      refine w_iret dX11_instruction_201 (fun _ e => by cases e; decide) ?_
      exact kF (e, (nx T (uE T (nx T p)))) (by rw [shS, show opS T _ _ 68 (nx T p) 8192 = .inr xa from e1]; show shS T _ _ (87 :: []) _ xa = _; rw [shS, show opS T _ _ 87 (nx T (uE T (nx T p))) xa = .inl e from e2]) _ _ fb qb (y1a.ub.tr z1) z2 z3
    · refine k_i rfl ?_
      refine w_if_eq (tgt := 200) dX11_instruction_193 (by decide) (fun c_193 => absurd c_193 (by decide)) (fun c_193 => ?_)
      refine w_iconst dX11_instruction_196 (v := 1) (by decide) ?_
      refine w_goto (tgt := 201) dX11_instruction_197 (by decide) ?_
      refine w_iret dX11_instruction_201 (fun _ e => by cases e; decide) ?_
      exact kG (uE T (nx T (uE T (nx T p))), xb) (by rw [shS, show opS T _ _ 68 (nx T p) 8192 = .inr xa from e1]; show shS T _ _ (87 :: []) _ xa = _; rw [shS, show opS T _ _ 87 (nx T (uE T (nx T p))) xa = .inr xb from e2]; rfl) _ _ fb qb (y1a.tr z1) z2 z3

set_option maxRecDepth 20000 in
set_option maxHeartbeats 4000000 in
theorem T_in4 {X : Nat × (Nat → Int32)} {h0 h : PH} {Q : Option Value → PH → Prop} {T : List Int32} {ψ : Nat → Nat → Int32} {sec : Bool} {a : AS} (ma : MA T sec a ψ) (hb : a.2.1 = true) {p : Nat} (hB : Byt T) (hp : p ≤ T.length) (np : ψ 25 40 = nI p) (f : Fu h0 h) (q : RU h T ψ) (kF : ∀ e, shS T (laS sec a.2.2.2.2.2) (a.2.2.2.1 + a.2.2.2.2.1.length) [68, 87] p 40960 = .inl e → RF h0 T ψ Q e.1 e.2) (kG : ∀ r, shS T (laS sec a.2.2.2.2.2) (a.2.2.2.1 + a.2.2.2.2.1.length) [68, 87] p 40960 = .inr r → RG h0 T ψ Q r.1 (fun y => sec = true → y = r.2)) : WP X mX11_instruction 8 178 0 (en 2 [.ref 25, .int 4]) [] h Q := by
  have hx := nx_p hp
  have h1 := uE_le hx.2
  refine w_iload_n dX11_instruction_0 rfl rfl ?_
  refine w_bipush dX11_instruction_1 (v := 22) (by decide) ?_
  refine w_icmp_lt (tgt := 31) dX11_instruction_3 (by decide) (fun c_3 => ?_) (fun c_3 => absurd c_3 (by decide))
  refine w_iload_n dX11_instruction_31 rfl rfl ?_
  refine w_bipush dX11_instruction_32 (v := 16) (by decide) ?_
  refine w_icmp_lt (tgt := 51) dX11_instruction_34 (by decide) (fun c_34 => ?_) (fun c_34 => absurd c_34 (by decide))
  refine w_iload_n dX11_instruction_51 rfl rfl ?_
  refine w_tbE (off := 150) (tgt := 202) (show (4 : Int32) = 4 from rfl) dX11_instruction_52 (by decide) (by decide) (by decide) (by decide) ?_
  refine w_aload_n dX11_instruction_202 rfl rfl ?_
  refine w_bipush dX11_instruction_203 (v := 9) (by decide) ?_
  refine w_ldcw dX11_instruction_205 kX11_351 ?_
  refine w_v2 (d2 := 4) (L2 := 80) dX11_instruction_208 vX11_348 rfl (q.1.lt (by decide)) rfl rfl (by decide) (Nat.le_of_ble_eq_true rfl) (by decide) (by decide) ?_
  refine T_taken (sec := sec) (w0 := 40960) (fun _ => rfl) hB hp np f q (fun e e1 ha φa fa qa y1a y2a y3a => ?_) (fun xa e1 ha φa fa qa y1a y2a y3a => ?_)
  · refine k_i rfl ?_
    refine w_if_eq (tgt := 231) dX11_instruction_211 (by decide) (fun c_211 => ?_) (fun c_211 => absurd c_211 (by decide))
    refine w_iconst dX11_instruction_231 (v := 0) (by decide) ?_
    refine w_iret dX11_instruction_232 (fun _ e => by cases e; decide) ?_
    exact kF (e, nx T p) (by rw [shS, show opS T _ _ 68 (nx T p) 40960 = .inl e from e1]) _ _ fa qa y1a y2a y3a
  · refine k_i rfl ?_
    refine w_if_eq (tgt := 231) dX11_instruction_211 (by decide) (fun c_211 => absurd c_211 (by decide)) (fun c_211 => ?_)
    refine w_aload_n dX11_instruction_214 rfl rfl ?_
    refine w_bipush dX11_instruction_215 (v := 9) (by decide) ?_
    refine w_aload_n dX11_instruction_217 rfl rfl ?_
    refine u_get (k := 51) (by decide) qa dX11_instruction_218 fX11_331 ?_
    refine w_v2 (d2 := 7) (L2 := 156) dX11_instruction_221 vX11_340 rfl (qa.1.lt (by decide)) rfl rfl (by decide) (Nat.le_of_ble_eq_true rfl) (by decide) (by decide) ?_
    refine T_mwh9 (w0 := xa) (ma.uv y1a) hb y3a hB h1 y2a fa qa (fun e e2 hb φb fb qb z1 z2 z3 => ?_) (fun xb e2 hb φb fb qb z1 z2 z3 => ?_)
    · refine k_i rfl ?_
      refine w_if_eq (tgt := 231) dX11_instruction_224 (by decide) (fun c_224 => ?_) (fun c_224 => absurd c_224 (by decide))
      refine w_iconst dX11_instruction_231 (v := 0) (by decide) ?_
      refine w_iret dX11_instruction_232 (fun _ e => by cases e; decide) ?_
      exact kF (e, (nx T (uE T (nx T p)))) (by rw [shS, show opS T _ _ 68 (nx T p) 40960 = .inr xa from e1]; show shS T _ _ (87 :: []) _ xa = _; rw [shS, show opS T _ _ 87 (nx T (uE T (nx T p))) xa = .inl e from e2]) _ _ fb qb (y1a.ub.tr z1) z2 z3
    · refine k_i rfl ?_
      refine w_if_eq (tgt := 231) dX11_instruction_224 (by decide) (fun c_224 => absurd c_224 (by decide)) (fun c_224 => ?_)
      refine w_iconst dX11_instruction_227 (v := 1) (by decide) ?_
      refine w_goto (tgt := 232) dX11_instruction_228 (by decide) ?_
      refine w_iret dX11_instruction_232 (fun _ e => by cases e; decide) ?_
      exact kG (uE T (nx T (uE T (nx T p))), xb) (by rw [shS, show opS T _ _ 68 (nx T p) 40960 = .inr xa from e1]; show shS T _ _ (87 :: []) _ xa = _; rw [shS, show opS T _ _ 87 (nx T (uE T (nx T p))) xa = .inr xb from e2]; rfl) _ _ fb qb (y1a.tr z1) z2 z3

set_option maxRecDepth 20000 in
set_option maxHeartbeats 4000000 in
theorem T_in5 {X : Nat × (Nat → Int32)} {h0 h : PH} {Q : Option Value → PH → Prop} {T : List Int32} {ψ : Nat → Nat → Int32} {sec : Bool} {a : AS} (ma : MA T sec a ψ) (hb : a.2.1 = true) {p : Nat} (hB : Byt T) (hp : p ≤ T.length) (np : ψ 25 40 = nI p) (f : Fu h0 h) (q : RU h T ψ) (kF : ∀ e, shS T (laS sec a.2.2.2.2.2) (a.2.2.2.1 + a.2.2.2.2.1.length) [68, 87] p 57344 = .inl e → RF h0 T ψ Q e.1 e.2) (kG : ∀ r, shS T (laS sec a.2.2.2.2.2) (a.2.2.2.1 + a.2.2.2.2.1.length) [68, 87] p 57344 = .inr r → RG h0 T ψ Q r.1 (fun y => sec = true → y = r.2)) : WP X mX11_instruction 8 178 0 (en 2 [.ref 25, .int 5]) [] h Q := by
  have hx := nx_p hp
  have h1 := uE_le hx.2
  refine w_iload_n dX11_instruction_0 rfl rfl ?_
  refine w_bipush dX11_instruction_1 (v := 22) (by decide) ?_
  refine w_icmp_lt (tgt := 31) dX11_instruction_3 (by decide) (fun c_3 => ?_) (fun c_3 => absurd c_3 (by decide))
  refine w_iload_n dX11_instruction_31 rfl rfl ?_
  refine w_bipush dX11_instruction_32 (v := 16) (by decide) ?_
  refine w_icmp_lt (tgt := 51) dX11_instruction_34 (by decide) (fun c_34 => ?_) (fun c_34 => absurd c_34 (by decide))
  refine w_iload_n dX11_instruction_51 rfl rfl ?_
  refine w_tbE (off := 181) (tgt := 233) (show (5 : Int32) = 5 from rfl) dX11_instruction_52 (by decide) (by decide) (by decide) (by decide) ?_
  refine w_aload_n dX11_instruction_233 rfl rfl ?_
  refine w_bipush dX11_instruction_234 (v := 9) (by decide) ?_
  refine w_ldcw dX11_instruction_236 kX11_352 ?_
  refine w_v2 (d2 := 4) (L2 := 80) dX11_instruction_239 vX11_348 rfl (q.1.lt (by decide)) rfl rfl (by decide) (Nat.le_of_ble_eq_true rfl) (by decide) (by decide) ?_
  refine T_taken (sec := sec) (w0 := 57344) (fun _ => rfl) hB hp np f q (fun e e1 ha φa fa qa y1a y2a y3a => ?_) (fun xa e1 ha φa fa qa y1a y2a y3a => ?_)
  · refine k_i rfl ?_
    refine w_if_eq (tgt := 262) dX11_instruction_242 (by decide) (fun c_242 => ?_) (fun c_242 => absurd c_242 (by decide))
    refine w_iconst dX11_instruction_262 (v := 0) (by decide) ?_
    refine w_iret dX11_instruction_263 (fun _ e => by cases e; decide) ?_
    exact kF (e, nx T p) (by rw [shS, show opS T _ _ 68 (nx T p) 57344 = .inl e from e1]) _ _ fa qa y1a y2a y3a
  · refine k_i rfl ?_
    refine w_if_eq (tgt := 262) dX11_instruction_242 (by decide) (fun c_242 => absurd c_242 (by decide)) (fun c_242 => ?_)
    refine w_aload_n dX11_instruction_245 rfl rfl ?_
    refine w_bipush dX11_instruction_246 (v := 9) (by decide) ?_
    refine w_aload_n dX11_instruction_248 rfl rfl ?_
    refine u_get (k := 51) (by decide) qa dX11_instruction_249 fX11_331 ?_
    refine w_v2 (d2 := 7) (L2 := 156) dX11_instruction_252 vX11_340 rfl (qa.1.lt (by decide)) rfl rfl (by decide) (Nat.le_of_ble_eq_true rfl) (by decide) (by decide) ?_
    refine T_mwh9 (w0 := xa) (ma.uv y1a) hb y3a hB h1 y2a fa qa (fun e e2 hb φb fb qb z1 z2 z3 => ?_) (fun xb e2 hb φb fb qb z1 z2 z3 => ?_)
    · refine k_i rfl ?_
      refine w_if_eq (tgt := 262) dX11_instruction_255 (by decide) (fun c_255 => ?_) (fun c_255 => absurd c_255 (by decide))
      refine w_iconst dX11_instruction_262 (v := 0) (by decide) ?_
      refine w_iret dX11_instruction_263 (fun _ e => by cases e; decide) ?_
      exact kF (e, (nx T (uE T (nx T p)))) (by rw [shS, show opS T _ _ 68 (nx T p) 57344 = .inr xa from e1]; show shS T _ _ (87 :: []) _ xa = _; rw [shS, show opS T _ _ 87 (nx T (uE T (nx T p))) xa = .inl e from e2]) _ _ fb qb (y1a.ub.tr z1) z2 z3
    · refine k_i rfl ?_
      refine w_if_eq (tgt := 262) dX11_instruction_255 (by decide) (fun c_255 => absurd c_255 (by decide)) (fun c_255 => ?_)
      refine w_iconst dX11_instruction_258 (v := 1) (by decide) ?_
      refine w_goto (tgt := 263) dX11_instruction_259 (by decide) ?_
      refine w_iret dX11_instruction_263 (fun _ e => by cases e; decide) ?_
      exact kG (uE T (nx T (uE T (nx T p))), xb) (by rw [shS, show opS T _ _ 68 (nx T p) 57344 = .inr xa from e1]; show shS T _ _ (87 :: []) _ xa = _; rw [shS, show opS T _ _ 87 (nx T (uE T (nx T p))) xa = .inr xb from e2]; rfl) _ _ fb qb (y1a.tr z1) z2 z3

set_option maxRecDepth 20000 in
set_option maxHeartbeats 4000000 in
theorem T_in6 {X : Nat × (Nat → Int32)} {h0 h : PH} {Q : Option Value → PH → Prop} {T : List Int32} {ψ : Nat → Nat → Int32} {sec : Bool} {a : AS} (ma : MA T sec a ψ) (hb : a.2.1 = true) {p : Nat} (hB : Byt T) (hp : p ≤ T.length) (np : ψ 25 40 = nI p) (f : Fu h0 h) (q : RU h T ψ) (kF : ∀ e, shS T (laS sec a.2.2.2.2.2) (a.2.2.2.1 + a.2.2.2.2.1.length) [68, 87] p 12288 = .inl e → RF h0 T ψ Q e.1 e.2) (kG : ∀ r, shS T (laS sec a.2.2.2.2.2) (a.2.2.2.1 + a.2.2.2.2.1.length) [68, 87] p 12288 = .inr r → RG h0 T ψ Q r.1 (fun y => sec = true → y = r.2)) : WP X mX11_instruction 8 178 0 (en 2 [.ref 25, .int 6]) [] h Q := by
  have hx := nx_p hp
  have h1 := uE_le hx.2
  refine w_iload_n dX11_instruction_0 rfl rfl ?_
  refine w_bipush dX11_instruction_1 (v := 22) (by decide) ?_
  refine w_icmp_lt (tgt := 31) dX11_instruction_3 (by decide) (fun c_3 => ?_) (fun c_3 => absurd c_3 (by decide))
  refine w_iload_n dX11_instruction_31 rfl rfl ?_
  refine w_bipush dX11_instruction_32 (v := 16) (by decide) ?_
  refine w_icmp_lt (tgt := 51) dX11_instruction_34 (by decide) (fun c_34 => ?_) (fun c_34 => absurd c_34 (by decide))
  refine w_iload_n dX11_instruction_51 rfl rfl ?_
  refine w_tbE (off := 212) (tgt := 264) (show (6 : Int32) = 6 from rfl) dX11_instruction_52 (by decide) (by decide) (by decide) (by decide) ?_
  refine w_aload_n dX11_instruction_264 rfl rfl ?_
  refine w_bipush dX11_instruction_265 (v := 9) (by decide) ?_
  refine w_sipush dX11_instruction_267 (v := 12288) (by decide) ?_
  refine w_v2 (d2 := 4) (L2 := 80) dX11_instruction_270 vX11_348 rfl (q.1.lt (by decide)) rfl rfl (by decide) (Nat.le_of_ble_eq_true rfl) (by decide) (by decide) ?_
  refine T_taken (sec := sec) (w0 := 12288) (fun _ => rfl) hB hp np f q (fun e e1 ha φa fa qa y1a y2a y3a => ?_) (fun xa e1 ha φa fa qa y1a y2a y3a => ?_)
  · refine k_i rfl ?_
    refine w_if_eq (tgt := 293) dX11_instruction_273 (by decide) (fun c_273 => ?_) (fun c_273 => absurd c_273 (by decide))
    refine w_iconst dX11_instruction_293 (v := 0) (by decide) ?_
    refine w_iret dX11_instruction_294 (fun _ e => by cases e; decide) ?_
    exact kF (e, nx T p) (by rw [shS, show opS T _ _ 68 (nx T p) 12288 = .inl e from e1]) _ _ fa qa y1a y2a y3a
  · refine k_i rfl ?_
    refine w_if_eq (tgt := 293) dX11_instruction_273 (by decide) (fun c_273 => absurd c_273 (by decide)) (fun c_273 => ?_)
    refine w_aload_n dX11_instruction_276 rfl rfl ?_
    refine w_bipush dX11_instruction_277 (v := 9) (by decide) ?_
    refine w_aload_n dX11_instruction_279 rfl rfl ?_
    refine u_get (k := 51) (by decide) qa dX11_instruction_280 fX11_331 ?_
    refine w_v2 (d2 := 7) (L2 := 156) dX11_instruction_283 vX11_340 rfl (qa.1.lt (by decide)) rfl rfl (by decide) (Nat.le_of_ble_eq_true rfl) (by decide) (by decide) ?_
    refine T_mwh9 (w0 := xa) (ma.uv y1a) hb y3a hB h1 y2a fa qa (fun e e2 hb φb fb qb z1 z2 z3 => ?_) (fun xb e2 hb φb fb qb z1 z2 z3 => ?_)
    · refine k_i rfl ?_
      refine w_if_eq (tgt := 293) dX11_instruction_286 (by decide) (fun c_286 => ?_) (fun c_286 => absurd c_286 (by decide))
      refine w_iconst dX11_instruction_293 (v := 0) (by decide) ?_
      refine w_iret dX11_instruction_294 (fun _ e => by cases e; decide) ?_
      exact kF (e, (nx T (uE T (nx T p)))) (by rw [shS, show opS T _ _ 68 (nx T p) 12288 = .inr xa from e1]; show shS T _ _ (87 :: []) _ xa = _; rw [shS, show opS T _ _ 87 (nx T (uE T (nx T p))) xa = .inl e from e2]) _ _ fb qb (y1a.ub.tr z1) z2 z3
    · refine k_i rfl ?_
      refine w_if_eq (tgt := 293) dX11_instruction_286 (by decide) (fun c_286 => absurd c_286 (by decide)) (fun c_286 => ?_)
      refine w_iconst dX11_instruction_289 (v := 1) (by decide) ?_
      refine w_goto (tgt := 294) dX11_instruction_290 (by decide) ?_
      refine w_iret dX11_instruction_294 (fun _ e => by cases e; decide) ?_
      exact kG (uE T (nx T (uE T (nx T p))), xb) (by rw [shS, show opS T _ _ 68 (nx T p) 12288 = .inr xa from e1]; show shS T _ _ (87 :: []) _ xa = _; rw [shS, show opS T _ _ 87 (nx T (uE T (nx T p))) xa = .inr xb from e2]; rfl) _ _ fb qb (y1a.tr z1) z2 z3

set_option maxRecDepth 20000 in
set_option maxHeartbeats 4000000 in
theorem T_in7 {X : Nat × (Nat → Int32)} {h0 h : PH} {Q : Option Value → PH → Prop} {T : List Int32} {ψ : Nat → Nat → Int32} {sec : Bool} {a : AS} (ma : MA T sec a ψ) (hb : a.2.1 = true) {p : Nat} (hB : Byt T) (hp : p ≤ T.length) (np : ψ 25 40 = nI p) (f : Fu h0 h) (q : RU h T ψ) (kF : ∀ e, shS T (laS sec a.2.2.2.2.2) (a.2.2.2.1 + a.2.2.2.2.1.length) [68, 87] p 45056 = .inl e → RF h0 T ψ Q e.1 e.2) (kG : ∀ r, shS T (laS sec a.2.2.2.2.2) (a.2.2.2.1 + a.2.2.2.2.1.length) [68, 87] p 45056 = .inr r → RG h0 T ψ Q r.1 (fun y => sec = true → y = r.2)) : WP X mX11_instruction 8 178 0 (en 2 [.ref 25, .int 7]) [] h Q := by
  have hx := nx_p hp
  have h1 := uE_le hx.2
  refine w_iload_n dX11_instruction_0 rfl rfl ?_
  refine w_bipush dX11_instruction_1 (v := 22) (by decide) ?_
  refine w_icmp_lt (tgt := 31) dX11_instruction_3 (by decide) (fun c_3 => ?_) (fun c_3 => absurd c_3 (by decide))
  refine w_iload_n dX11_instruction_31 rfl rfl ?_
  refine w_bipush dX11_instruction_32 (v := 16) (by decide) ?_
  refine w_icmp_lt (tgt := 51) dX11_instruction_34 (by decide) (fun c_34 => ?_) (fun c_34 => absurd c_34 (by decide))
  refine w_iload_n dX11_instruction_51 rfl rfl ?_
  refine w_tbE (off := 243) (tgt := 295) (show (7 : Int32) = 7 from rfl) dX11_instruction_52 (by decide) (by decide) (by decide) (by decide) ?_
  refine w_aload_n dX11_instruction_295 rfl rfl ?_
  refine w_bipush dX11_instruction_296 (v := 9) (by decide) ?_
  refine w_ldcw dX11_instruction_298 kX11_353 ?_
  refine w_v2 (d2 := 4) (L2 := 80) dX11_instruction_301 vX11_348 rfl (q.1.lt (by decide)) rfl rfl (by decide) (Nat.le_of_ble_eq_true rfl) (by decide) (by decide) ?_
  refine T_taken (sec := sec) (w0 := 45056) (fun _ => rfl) hB hp np f q (fun e e1 ha φa fa qa y1a y2a y3a => ?_) (fun xa e1 ha φa fa qa y1a y2a y3a => ?_)
  · refine k_i rfl ?_
    refine w_if_eq (tgt := 324) dX11_instruction_304 (by decide) (fun c_304 => ?_) (fun c_304 => absurd c_304 (by decide))
    refine w_iconst dX11_instruction_324 (v := 0) (by decide) ?_
    refine w_iret dX11_instruction_325 (fun _ e => by cases e; decide) ?_
    exact kF (e, nx T p) (by rw [shS, show opS T _ _ 68 (nx T p) 45056 = .inl e from e1]) _ _ fa qa y1a y2a y3a
  · refine k_i rfl ?_
    refine w_if_eq (tgt := 324) dX11_instruction_304 (by decide) (fun c_304 => absurd c_304 (by decide)) (fun c_304 => ?_)
    refine w_aload_n dX11_instruction_307 rfl rfl ?_
    refine w_bipush dX11_instruction_308 (v := 9) (by decide) ?_
    refine w_aload_n dX11_instruction_310 rfl rfl ?_
    refine u_get (k := 51) (by decide) qa dX11_instruction_311 fX11_331 ?_
    refine w_v2 (d2 := 7) (L2 := 156) dX11_instruction_314 vX11_340 rfl (qa.1.lt (by decide)) rfl rfl (by decide) (Nat.le_of_ble_eq_true rfl) (by decide) (by decide) ?_
    refine T_mwh9 (w0 := xa) (ma.uv y1a) hb y3a hB h1 y2a fa qa (fun e e2 hb φb fb qb z1 z2 z3 => ?_) (fun xb e2 hb φb fb qb z1 z2 z3 => ?_)
    · refine k_i rfl ?_
      refine w_if_eq (tgt := 324) dX11_instruction_317 (by decide) (fun c_317 => ?_) (fun c_317 => absurd c_317 (by decide))
      refine w_iconst dX11_instruction_324 (v := 0) (by decide) ?_
      refine w_iret dX11_instruction_325 (fun _ e => by cases e; decide) ?_
      exact kF (e, (nx T (uE T (nx T p)))) (by rw [shS, show opS T _ _ 68 (nx T p) 45056 = .inr xa from e1]; show shS T _ _ (87 :: []) _ xa = _; rw [shS, show opS T _ _ 87 (nx T (uE T (nx T p))) xa = .inl e from e2]) _ _ fb qb (y1a.ub.tr z1) z2 z3
    · refine k_i rfl ?_
      refine w_if_eq (tgt := 324) dX11_instruction_317 (by decide) (fun c_317 => absurd c_317 (by decide)) (fun c_317 => ?_)
      refine w_iconst dX11_instruction_320 (v := 1) (by decide) ?_
      refine w_goto (tgt := 325) dX11_instruction_321 (by decide) ?_
      refine w_iret dX11_instruction_325 (fun _ e => by cases e; decide) ?_
      exact kG (uE T (nx T (uE T (nx T p))), xb) (by rw [shS, show opS T _ _ 68 (nx T p) 45056 = .inr xa from e1]; show shS T _ _ (87 :: []) _ xa = _; rw [shS, show opS T _ _ 87 (nx T (uE T (nx T p))) xa = .inr xb from e2]; rfl) _ _ fb qb (y1a.tr z1) z2 z3

set_option maxRecDepth 20000 in
set_option maxHeartbeats 4000000 in
theorem T_in8 {X : Nat × (Nat → Int32)} {h0 h : PH} {Q : Option Value → PH → Prop} {T : List Int32} {ψ : Nat → Nat → Int32} {sec : Bool} {a : AS} (ma : MA T sec a ψ) (hb : a.2.1 = true) {p : Nat} (hB : Byt T) (hp : p ≤ T.length) (np : ψ 25 40 = nI p) (f : Fu h0 h) (q : RU h T ψ) (kF : ∀ e, shS T (laS sec a.2.2.2.2.2) (a.2.2.2.1 + a.2.2.2.2.1.length) [68, 65, 79] p 24576 = .inl e → RF h0 T ψ Q e.1 e.2) (kG : ∀ r, shS T (laS sec a.2.2.2.2.2) (a.2.2.2.1 + a.2.2.2.2.1.length) [68, 65, 79] p 24576 = .inr r → RG h0 T ψ Q r.1 (fun y => sec = true → y = r.2)) : WP X mX11_instruction 8 178 0 (en 2 [.ref 25, .int 8]) [] h Q := by
  have hx := nx_p hp
  have h1 := uE_le hx.2
  refine w_iload_n dX11_instruction_0 rfl rfl ?_
  refine w_bipush dX11_instruction_1 (v := 22) (by decide) ?_
  refine w_icmp_lt (tgt := 31) dX11_instruction_3 (by decide) (fun c_3 => ?_) (fun c_3 => absurd c_3 (by decide))
  refine w_iload_n dX11_instruction_31 rfl rfl ?_
  refine w_bipush dX11_instruction_32 (v := 16) (by decide) ?_
  refine w_icmp_lt (tgt := 51) dX11_instruction_34 (by decide) (fun c_34 => ?_) (fun c_34 => absurd c_34 (by decide))
  refine w_iload_n dX11_instruction_51 rfl rfl ?_
  refine w_tbE (off := 274) (tgt := 326) (show (8 : Int32) = 8 from rfl) dX11_instruction_52 (by decide) (by decide) (by decide) (by decide) ?_
  refine w_aload_n dX11_instruction_326 rfl rfl ?_
  refine w_sipush dX11_instruction_327 (v := 24576) (by decide) ?_
  refine w_v1 (d2 := 5) (L2 := 102) dX11_instruction_330 vX11_354 rfl (q.1.lt (by decide)) rfl (by decide) (Nat.le_of_ble_eq_true rfl) (by decide) (by decide) ?_
  refine T_based (w0 := 24576) ma hb (fun _ => rfl) hB hp np f q (fun e e1 ha φa fa qa z1 z2 z3 => ?_) (fun r e1 ha φa fa qa z1 z2 z3 => ?_)
  · refine k_i rfl ?_
    refine w_iret dX11_instruction_333 (fun _ e => by cases e; decide) ?_
    exact kF e e1 _ _ fa qa z1 z2 z3
  · refine k_i rfl ?_
    refine w_iret dX11_instruction_333 (fun _ e => by cases e; decide) ?_
    exact kG r e1 _ _ fa qa z1 z2 z3

set_option maxRecDepth 20000 in
set_option maxHeartbeats 4000000 in
theorem T_in9 {X : Nat × (Nat → Int32)} {h0 h : PH} {Q : Option Value → PH → Prop} {T : List Int32} {ψ : Nat → Nat → Int32} {sec : Bool} {a : AS} (ma : MA T sec a ψ) (hb : a.2.1 = true) {p : Nat} (hB : Byt T) (hp : p ≤ T.length) (np : ψ 25 40 = nI p) (f : Fu h0 h) (q : RU h T ψ) (kF : ∀ e, shS T (laS sec a.2.2.2.2.2) (a.2.2.2.1 + a.2.2.2.2.1.length) [68, 65, 79] p 28672 = .inl e → RF h0 T ψ Q e.1 e.2) (kG : ∀ r, shS T (laS sec a.2.2.2.2.2) (a.2.2.2.1 + a.2.2.2.2.1.length) [68, 65, 79] p 28672 = .inr r → RG h0 T ψ Q r.1 (fun y => sec = true → y = r.2)) : WP X mX11_instruction 8 178 0 (en 2 [.ref 25, .int 9]) [] h Q := by
  have hx := nx_p hp
  have h1 := uE_le hx.2
  refine w_iload_n dX11_instruction_0 rfl rfl ?_
  refine w_bipush dX11_instruction_1 (v := 22) (by decide) ?_
  refine w_icmp_lt (tgt := 31) dX11_instruction_3 (by decide) (fun c_3 => ?_) (fun c_3 => absurd c_3 (by decide))
  refine w_iload_n dX11_instruction_31 rfl rfl ?_
  refine w_bipush dX11_instruction_32 (v := 16) (by decide) ?_
  refine w_icmp_lt (tgt := 51) dX11_instruction_34 (by decide) (fun c_34 => ?_) (fun c_34 => absurd c_34 (by decide))
  refine w_iload_n dX11_instruction_51 rfl rfl ?_
  refine w_tbE (off := 282) (tgt := 334) (show (9 : Int32) = 9 from rfl) dX11_instruction_52 (by decide) (by decide) (by decide) (by decide) ?_
  refine w_aload_n dX11_instruction_334 rfl rfl ?_
  refine w_sipush dX11_instruction_335 (v := 28672) (by decide) ?_
  refine w_v1 (d2 := 5) (L2 := 102) dX11_instruction_338 vX11_354 rfl (q.1.lt (by decide)) rfl (by decide) (Nat.le_of_ble_eq_true rfl) (by decide) (by decide) ?_
  refine T_based (w0 := 28672) ma hb (fun _ => rfl) hB hp np f q (fun e e1 ha φa fa qa z1 z2 z3 => ?_) (fun r e1 ha φa fa qa z1 z2 z3 => ?_)
  · refine k_i rfl ?_
    refine w_iret dX11_instruction_341 (fun _ e => by cases e; decide) ?_
    exact kF e e1 _ _ fa qa z1 z2 z3
  · refine k_i rfl ?_
    refine w_iret dX11_instruction_341 (fun _ e => by cases e; decide) ?_
    exact kG r e1 _ _ fa qa z1 z2 z3

set_option maxRecDepth 20000 in
set_option maxHeartbeats 4000000 in
theorem T_in10 {X : Nat × (Nat → Int32)} {h0 h : PH} {Q : Option Value → PH → Prop} {T : List Int32} {ψ : Nat → Nat → Int32} {sec : Bool} {a : AS} (ma : MA T sec a ψ) (hb : a.2.1 = true) {p : Nat} (hB : Byt T) (hp : p ≤ T.length) (np : ψ 25 40 = nI p) (f : Fu h0 h) (q : RU h T ψ) (kF : ∀ e, shS T (laS sec a.2.2.2.2.2) (a.2.2.2.1 + a.2.2.2.2.1.length) [65] p 49152 = .inl e → RF h0 T ψ Q e.1 e.2) (kG : ∀ r, shS T (laS sec a.2.2.2.2.2) (a.2.2.2.1 + a.2.2.2.2.1.length) [65] p 49152 = .inr r → RG h0 T ψ Q r.1 (fun y => sec = true → y = r.2)) : WP X mX11_instruction 8 178 0 (en 2 [.ref 25, .int 10]) [] h Q := by
  have hx := nx_p hp
  have h1 := uE_le hx.2
  refine w_iload_n dX11_instruction_0 rfl rfl ?_
  refine w_bipush dX11_instruction_1 (v := 22) (by decide) ?_
  refine w_icmp_lt (tgt := 31) dX11_instruction_3 (by decide) (fun c_3 => ?_) (fun c_3 => absurd c_3 (by decide))
  refine w_iload_n dX11_instruction_31 rfl rfl ?_
  refine w_bipush dX11_instruction_32 (v := 16) (by decide) ?_
  refine w_icmp_lt (tgt := 51) dX11_instruction_34 (by decide) (fun c_34 => ?_) (fun c_34 => absurd c_34 (by decide))
  refine w_iload_n dX11_instruction_51 rfl rfl ?_
  refine w_tbE (off := 290) (tgt := 342) (show (10 : Int32) = 10 from rfl) dX11_instruction_52 (by decide) (by decide) (by decide) (by decide) ?_
  refine w_aload_n dX11_instruction_342 rfl rfl ?_
  refine w_bipush dX11_instruction_343 (v := 6) (by decide) ?_
  refine w_ldcw dX11_instruction_345 kX11_357 ?_
  refine w_v2 (d2 := 4) (L2 := 80) dX11_instruction_348 vX11_348 rfl (q.1.lt (by decide)) rfl rfl (by decide) (Nat.le_of_ble_eq_true rfl) (by decide) (by decide) ?_
  refine T_taken (sec := sec) (w0 := 49152) (fun _ => rfl) hB hp np f q (fun e e1 ha φa fa qa y1a y2a y3a => ?_) (fun xa e1 ha φa fa qa y1a y2a y3a => ?_)
  · refine k_i rfl ?_
    refine w_iret dX11_instruction_351 (fun _ e => by cases e; decide) ?_
    exact kF (e, nx T p) (by rw [shS, show opS T _ _ 65 (nx T p) 49152 = .inl e from e1]) _ _ fa qa y1a y2a y3a
  · refine k_i rfl ?_
    refine w_iret dX11_instruction_351 (fun _ e => by cases e; decide) ?_
    exact kG (uE T (nx T p), xa) (by rw [shS, show opS T _ _ 65 (nx T p) 49152 = .inr xa from e1]; rfl) _ _ fa qa y1a y2a y3a

set_option maxRecDepth 20000 in
set_option maxHeartbeats 4000000 in
theorem T_in11 {X : Nat × (Nat → Int32)} {h0 h : PH} {Q : Option Value → PH → Prop} {T : List Int32} {ψ : Nat → Nat → Int32} {sec : Bool} {a : AS} (ma : MA T sec a ψ) (hb : a.2.1 = true) {p : Nat} (hB : Byt T) (hp : p ≤ T.length) (np : ψ 25 40 = nI p) (f : Fu h0 h) (q : RU h T ψ) (kF : ∀ e, shS T (laS sec a.2.2.2.2.2) (a.2.2.2.1 + a.2.2.2.2.1.length) [74] p 18432 = .inl e → RF h0 T ψ Q e.1 e.2) (kG : ∀ r, shS T (laS sec a.2.2.2.2.2) (a.2.2.2.1 + a.2.2.2.2.1.length) [74] p 18432 = .inr r → RG h0 T ψ Q r.1 (fun y => sec = true → y = r.2)) : WP X mX11_instruction 8 178 0 (en 2 [.ref 25, .int 11]) [] h Q := by
  have hx := nx_p hp
  have h1 := uE_le hx.2
  refine w_iload_n dX11_instruction_0 rfl rfl ?_
  refine w_bipush dX11_instruction_1 (v := 22) (by decide) ?_
  refine w_icmp_lt (tgt := 31) dX11_instruction_3 (by decide) (fun c_3 => ?_) (fun c_3 => absurd c_3 (by decide))
  refine w_iload_n dX11_instruction_31 rfl rfl ?_
  refine w_bipush dX11_instruction_32 (v := 16) (by decide) ?_
  refine w_icmp_lt (tgt := 51) dX11_instruction_34 (by decide) (fun c_34 => ?_) (fun c_34 => absurd c_34 (by decide))
  refine w_iload_n dX11_instruction_51 rfl rfl ?_
  refine w_tbE (off := 310) (tgt := 362) (show (11 : Int32) = 11 from rfl) dX11_instruction_52 (by decide) (by decide) (by decide) (by decide) ?_
  refine w_aload_n dX11_instruction_362 rfl rfl ?_
  refine w_bipush dX11_instruction_363 (v := 11) (by decide) ?_
  refine w_sipush dX11_instruction_365 (v := 18432) (by decide) ?_
  refine w_v2 (d2 := 7) (L2 := 156) dX11_instruction_368 vX11_340 rfl (q.1.lt (by decide)) rfl rfl (by decide) (Nat.le_of_ble_eq_true rfl) (by decide) (by decide) ?_
  refine T_mwh11 (w0 := 18432) ma hb (fun _ => by decide) hB hp np f q (fun e e1 ha φa fa qa z1 z2 z3 => ?_) (fun xa e1 ha φa fa qa z1 z2 z3 => ?_)
  · refine k_i rfl ?_
    refine w_iret dX11_instruction_371 (fun _ e => by cases e; decide) ?_
    exact kF (e, nx T p) (by rw [shS, show opS T _ _ 74 (nx T p) 18432 = .inl e from e1]) _ _ fa qa z1 z2 z3
  · refine k_i rfl ?_
    refine w_iret dX11_instruction_371 (fun _ e => by cases e; decide) ?_
    exact kG (uE T (nx T p), xa) (by rw [shS, show opS T _ _ 74 (nx T p) 18432 = .inr xa from e1]; rfl) _ _ fa qa z1 z2 z3

set_option maxRecDepth 20000 in
set_option maxHeartbeats 4000000 in
theorem T_in12 {X : Nat × (Nat → Int32)} {h0 h : PH} {Q : Option Value → PH → Prop} {T : List Int32} {ψ : Nat → Nat → Int32} {sec : Bool} {a : AS} (ma : MA T sec a ψ) (hb : a.2.1 = true) {p : Nat} (hB : Byt T) (hp : p ≤ T.length) (np : ψ 25 40 = nI p) (f : Fu h0 h) (q : RU h T ψ) (kF : ∀ e, shS T (laS sec a.2.2.2.2.2) (a.2.2.2.1 + a.2.2.2.2.1.length) [65] p 16384 = .inl e → RF h0 T ψ Q e.1 e.2) (kG : ∀ r, shS T (laS sec a.2.2.2.2.2) (a.2.2.2.1 + a.2.2.2.2.1.length) [65] p 16384 = .inr r → RG h0 T ψ Q r.1 (fun y => sec = true → y = r.2)) : WP X mX11_instruction 8 178 0 (en 2 [.ref 25, .int 12]) [] h Q := by
  have hx := nx_p hp
  have h1 := uE_le hx.2
  refine w_iload_n dX11_instruction_0 rfl rfl ?_
  refine w_bipush dX11_instruction_1 (v := 22) (by decide) ?_
  refine w_icmp_lt (tgt := 31) dX11_instruction_3 (by decide) (fun c_3 => ?_) (fun c_3 => absurd c_3 (by decide))
  refine w_iload_n dX11_instruction_31 rfl rfl ?_
  refine w_bipush dX11_instruction_32 (v := 16) (by decide) ?_
  refine w_icmp_lt (tgt := 51) dX11_instruction_34 (by decide) (fun c_34 => ?_) (fun c_34 => absurd c_34 (by decide))
  refine w_iload_n dX11_instruction_51 rfl rfl ?_
  refine w_tbE (off := 300) (tgt := 352) (show (12 : Int32) = 12 from rfl) dX11_instruction_52 (by decide) (by decide) (by decide) (by decide) ?_
  refine w_aload_n dX11_instruction_352 rfl rfl ?_
  refine w_bipush dX11_instruction_353 (v := 6) (by decide) ?_
  refine w_sipush dX11_instruction_355 (v := 16384) (by decide) ?_
  refine w_v2 (d2 := 4) (L2 := 80) dX11_instruction_358 vX11_348 rfl (q.1.lt (by decide)) rfl rfl (by decide) (Nat.le_of_ble_eq_true rfl) (by decide) (by decide) ?_
  refine T_taken (sec := sec) (w0 := 16384) (fun _ => rfl) hB hp np f q (fun e e1 ha φa fa qa y1a y2a y3a => ?_) (fun xa e1 ha φa fa qa y1a y2a y3a => ?_)
  · refine k_i rfl ?_
    refine w_iret dX11_instruction_361 (fun _ e => by cases e; decide) ?_
    exact kF (e, nx T p) (by rw [shS, show opS T _ _ 65 (nx T p) 16384 = .inl e from e1]) _ _ fa qa y1a y2a y3a
  · refine k_i rfl ?_
    refine w_iret dX11_instruction_361 (fun _ e => by cases e; decide) ?_
    exact kG (uE T (nx T p), xa) (by rw [shS, show opS T _ _ 65 (nx T p) 16384 = .inr xa from e1]; rfl) _ _ fa qa y1a y2a y3a

set_option maxRecDepth 20000 in
set_option maxHeartbeats 4000000 in
theorem T_in13 {X : Nat × (Nat → Int32)} {h0 h : PH} {Q : Option Value → PH → Prop} {T : List Int32} {ψ : Nat → Nat → Int32} {sec : Bool} {a : AS} (ma : MA T sec a ψ) (hb : a.2.1 = true) {p : Nat} (hB : Byt T) (hp : p ≤ T.length) (np : ψ 25 40 = nI p) (f : Fu h0 h) (q : RU h T ψ) (kF : ∀ e, shS T (laS sec a.2.2.2.2.2) (a.2.2.2.1 + a.2.2.2.2.1.length) [86] p 61440 = .inl e → RF h0 T ψ Q e.1 e.2) (kG : ∀ r, shS T (laS sec a.2.2.2.2.2) (a.2.2.2.1 + a.2.2.2.2.1.length) [86] p 61440 = .inr r → RG h0 T ψ Q r.1 (fun y => sec = true → y = r.2)) : WP X mX11_instruction 8 178 0 (en 2 [.ref 25, .int 13]) [] h Q := by
  have hx := nx_p hp
  have h1 := uE_le hx.2
  refine w_iload_n dX11_instruction_0 rfl rfl ?_
  refine w_bipush dX11_instruction_1 (v := 22) (by decide) ?_
  refine w_icmp_lt (tgt := 31) dX11_instruction_3 (by decide) (fun c_3 => ?_) (fun c_3 => absurd c_3 (by decide))
  refine w_iload_n dX11_instruction_31 rfl rfl ?_
  refine w_bipush dX11_instruction_32 (v := 16) (by decide) ?_
  refine w_icmp_lt (tgt := 51) dX11_instruction_34 (by decide) (fun c_34 => ?_) (fun c_34 => absurd c_34 (by decide))
  refine w_iload_n dX11_instruction_51 rfl rfl ?_
  refine w_tbE (off := 320) (tgt := 372) (show (13 : Int32) = 13 from rfl) dX11_instruction_52 (by decide) (by decide) (by decide) (by decide) ?_
  refine w_aload_n dX11_instruction_372 rfl rfl ?_
  refine w_iconst dX11_instruction_373 (v := 0) (by decide) ?_
  refine w_sipush dX11_instruction_374 (v := 255) (by decide) ?_
  refine w_v2 (d2 := 4) (L2 := 80) dX11_instruction_377 vX11_358 rfl (q.1.lt (by decide)) rfl rfl (by decide) (Nat.le_of_ble_eq_true rfl) (by decide) (by decide) ?_
  refine T_small hB hp np f q (fun e e9 hc φc fc qc z1 z2 z3 => ?_) (fun x e9 hc φc fc qc z1 z2 z3 z4 => ?_)
  · refine k_i rfl ?_
    refine w_if_ne (tgt := 385) dX11_instruction_380 (by decide) (fun c_380 => absurd c_380 (by decide)) (fun c_380 => ?_)
    refine w_iconst dX11_instruction_383 (v := 0) (by decide) ?_
    refine w_iret dX11_instruction_384 (fun _ e => by cases e; decide) ?_
    exact kF (e, nx T p) (by rw [shS, show opS T _ _ 86 (nx T p) 61440 = nuS T (nx T p) 0 255 255 61440 from rfl, nu_sn, e9]) _ _ fc qc z1 z2 z3
  · refine k_i rfl ?_
    refine w_if_ne (tgt := 385) dX11_instruction_380 (by decide) (fun c_380 => ?_) (fun c_380 => absurd c_380 (by decide))
    refine w_aload_n dX11_instruction_385 rfl rfl ?_
    refine w_ldcw dX11_instruction_386 kX11_361 ?_
    refine w_aload_n dX11_instruction_389 rfl rfl ?_
    refine u_get (k := 44) (by decide) qc dX11_instruction_390 fX11_232 ?_
    refine w_iadd dX11_instruction_393 ?_
    refine u_put (k := 51) (by decide) fc qc dX11_instruction_394 fX11_331 (fun h1 f1 q1 => ?_)
    refine w_iconst dX11_instruction_397 (v := 1) (by decide) ?_
    refine w_iret dX11_instruction_398 (fun _ e => by cases e; decide) ?_
    have rg : ¬ x < 0 ∧ ¬ 255 < x := by
      unfold snS at e9
      split at e9
      · split at e9
        · cases e9
        split at e9
        · cases e9
        cases e9; exact ⟨by assumption, by assumption⟩
      · cases e9
    exact kG (uE T (nx T p), 61440 ||| (x &&& 255)) (by rw [shS, show opS T _ _ 86 (nx T p) 61440 = nuS T (nx T p) 0 255 255 61440 from rfl, nu_sn, e9]; rfl) _ _ f1 q1 (z1.p (Or.inr rfl)) ((uP_k (by decide)).trans z2) (fun _ => by rw [uP_s, z3]; exact tr_e rg.1 rg.2)

set_option maxRecDepth 20000 in
set_option maxHeartbeats 4000000 in
theorem T_in14 {X : Nat × (Nat → Int32)} {h0 h : PH} {Q : Option Value → PH → Prop} {T : List Int32} {ψ : Nat → Nat → Int32} {sec : Bool} {a : AS} (ma : MA T sec a ψ) (hb : a.2.1 = true) {p : Nat} (hB : Byt T) (hp : p ≤ T.length) (np : ψ 25 40 = nI p) (f : Fu h0 h) (q : RU h T ψ) (kF : ∀ e, shS T (laS sec a.2.2.2.2.2) (a.2.2.2.1 + a.2.2.2.2.1.length) [] p 49600 = .inl e → RF h0 T ψ Q e.1 e.2) (kG : ∀ r, shS T (laS sec a.2.2.2.2.2) (a.2.2.2.1 + a.2.2.2.2.1.length) [] p 49600 = .inr r → RG h0 T ψ Q r.1 (fun y => sec = true → y = r.2)) : WP X mX11_instruction 8 178 0 (en 2 [.ref 25, .int 14]) [] h Q := by
  have hx := nx_p hp
  have h1 := uE_le hx.2
  refine w_iload_n dX11_instruction_0 rfl rfl ?_
  refine w_bipush dX11_instruction_1 (v := 22) (by decide) ?_
  refine w_icmp_lt (tgt := 31) dX11_instruction_3 (by decide) (fun c_3 => ?_) (fun c_3 => absurd c_3 (by decide))
  refine w_iload_n dX11_instruction_31 rfl rfl ?_
  refine w_bipush dX11_instruction_32 (v := 16) (by decide) ?_
  refine w_icmp_lt (tgt := 51) dX11_instruction_34 (by decide) (fun c_34 => ?_) (fun c_34 => absurd c_34 (by decide))
  refine w_iload_n dX11_instruction_51 rfl rfl ?_
  refine w_tableOut (tgt := 399) dX11_instruction_52 (by decide) (by decide) ?_
  refine w_aload_n dX11_instruction_399 rfl rfl ?_
  refine w_iload_n dX11_instruction_400 rfl rfl ?_
  refine w_bipush dX11_instruction_401 (v := 14) (by decide) ?_
  refine w_icmp_ne (tgt := 412) dX11_instruction_403 (by decide) (fun c_403 => absurd c_403 (by decide)) (fun c_403 => ?_)
  refine w_ldcw dX11_instruction_406 kX11_362 ?_
  refine w_goto (tgt := 414) dX11_instruction_409 (by decide) ?_
  refine u_put (k := 51) (by decide) f q dX11_instruction_414 fX11_331 (fun h1 f1 q1 => ?_)
  refine w_iconst dX11_instruction_417 (v := 1) (by decide) ?_
  refine w_iret dX11_instruction_418 (fun _ e => by cases e; decide) ?_
  exact kG (p, 49600) rfl _ _ f1 q1 (UV.rf.p (Or.inr rfl)) ((uP_k (by decide)).trans np) (fun _ => uP_s)

set_option maxRecDepth 20000 in
set_option maxHeartbeats 4000000 in
theorem T_in15 {X : Nat × (Nat → Int32)} {h0 h : PH} {Q : Option Value → PH → Prop} {T : List Int32} {ψ : Nat → Nat → Int32} {sec : Bool} {a : AS} (ma : MA T sec a ψ) (hb : a.2.1 = true) {p : Nat} (hB : Byt T) (hp : p ≤ T.length) (np : ψ 25 40 = nI p) (f : Fu h0 h) (q : RU h T ψ) (kF : ∀ e, shS T (laS sec a.2.2.2.2.2) (a.2.2.2.1 + a.2.2.2.2.1.length) [] p 32768 = .inl e → RF h0 T ψ Q e.1 e.2) (kG : ∀ r, shS T (laS sec a.2.2.2.2.2) (a.2.2.2.1 + a.2.2.2.2.1.length) [] p 32768 = .inr r → RG h0 T ψ Q r.1 (fun y => sec = true → y = r.2)) : WP X mX11_instruction 8 178 0 (en 2 [.ref 25, .int 15]) [] h Q := by
  have hx := nx_p hp
  have h1 := uE_le hx.2
  refine w_iload_n dX11_instruction_0 rfl rfl ?_
  refine w_bipush dX11_instruction_1 (v := 22) (by decide) ?_
  refine w_icmp_lt (tgt := 31) dX11_instruction_3 (by decide) (fun c_3 => ?_) (fun c_3 => absurd c_3 (by decide))
  refine w_iload_n dX11_instruction_31 rfl rfl ?_
  refine w_bipush dX11_instruction_32 (v := 16) (by decide) ?_
  refine w_icmp_lt (tgt := 51) dX11_instruction_34 (by decide) (fun c_34 => ?_) (fun c_34 => absurd c_34 (by decide))
  refine w_iload_n dX11_instruction_51 rfl rfl ?_
  refine w_tableOut (tgt := 399) dX11_instruction_52 (by decide) (by decide) ?_
  refine w_aload_n dX11_instruction_399 rfl rfl ?_
  refine w_iload_n dX11_instruction_400 rfl rfl ?_
  refine w_bipush dX11_instruction_401 (v := 14) (by decide) ?_
  refine w_icmp_ne (tgt := 412) dX11_instruction_403 (by decide) (fun c_403 => ?_) (fun c_403 => absurd c_403 (by decide))
  refine w_ldc dX11_instruction_412 kX11_88 ?_
  refine u_put (k := 51) (by decide) f q dX11_instruction_414 fX11_331 (fun h1 f1 q1 => ?_)
  refine w_iconst dX11_instruction_417 (v := 1) (by decide) ?_
  refine w_iret dX11_instruction_418 (fun _ e => by cases e; decide) ?_
  exact kG (p, 32768) rfl _ _ f1 q1 (UV.rf.p (Or.inr rfl)) ((uP_k (by decide)).trans np) (fun _ => uP_s)

set_option maxRecDepth 20000 in
set_option maxHeartbeats 4000000 in
theorem T_in16 {X : Nat × (Nat → Int32)} {h0 h : PH} {Q : Option Value → PH → Prop} {T : List Int32} {ψ : Nat → Nat → Int32} {sec : Bool} {a : AS} (ma : MA T sec a ψ) (hb : a.2.1 = true) {p : Nat} (hB : Byt T) (hp : p ≤ T.length) (np : ψ 25 40 = nI p) (f : Fu h0 h) (q : RU h T ψ) (kF : ∀ e, shS T (laS sec a.2.2.2.2.2) (a.2.2.2.1 + a.2.2.2.2.1.length) [] p 61472 = .inl e → RF h0 T ψ Q e.1 e.2) (kG : ∀ r, shS T (laS sec a.2.2.2.2.2) (a.2.2.2.1 + a.2.2.2.2.1.length) [] p 61472 = .inr r → RG h0 T ψ Q r.1 (fun y => sec = true → y = r.2)) : WP X mX11_instruction 8 178 0 (en 2 [.ref 25, .int 16]) [] h Q := by
  have hx := nx_p hp
  have h1 := uE_le hx.2
  refine w_iload_n dX11_instruction_0 rfl rfl ?_
  refine w_bipush dX11_instruction_1 (v := 22) (by decide) ?_
  refine w_icmp_lt (tgt := 31) dX11_instruction_3 (by decide) (fun c_3 => ?_) (fun c_3 => absurd c_3 (by decide))
  refine w_iload_n dX11_instruction_31 rfl rfl ?_
  refine w_bipush dX11_instruction_32 (v := 16) (by decide) ?_
  refine w_icmp_lt (tgt := 51) dX11_instruction_34 (by decide) (fun c_34 => absurd c_34 (by decide)) (fun c_34 => ?_)
  refine w_aload_n dX11_instruction_37 rfl rfl ?_
  refine w_ldcw dX11_instruction_38 kX11_343 ?_
  refine w_iload_n dX11_instruction_41 rfl rfl ?_
  refine w_iadd dX11_instruction_42 ?_
  refine w_bipush dX11_instruction_43 (v := 16) (by decide) ?_
  refine w_isub dX11_instruction_45 ?_
  refine u_put (k := 51) (by decide) f q dX11_instruction_46 fX11_331 (fun h1 f1 q1 => ?_)
  refine w_iconst dX11_instruction_49 (v := 1) (by decide) ?_
  refine w_iret dX11_instruction_50 (fun _ e => by cases e; decide) ?_
  exact kG (p, 61472) rfl _ _ f1 q1 (UV.rf.p (Or.inr rfl)) ((uP_k (by decide)).trans np) (fun _ => uP_s.trans (show (61472 : Int32) + 16 - 16 = 61472 from by decide))

set_option maxRecDepth 20000 in
set_option maxHeartbeats 4000000 in
theorem T_in17 {X : Nat × (Nat → Int32)} {h0 h : PH} {Q : Option Value → PH → Prop} {T : List Int32} {ψ : Nat → Nat → Int32} {sec : Bool} {a : AS} (ma : MA T sec a ψ) (hb : a.2.1 = true) {p : Nat} (hB : Byt T) (hp : p ≤ T.length) (np : ψ 25 40 = nI p) (f : Fu h0 h) (q : RU h T ψ) (kF : ∀ e, shS T (laS sec a.2.2.2.2.2) (a.2.2.2.1 + a.2.2.2.2.1.length) [] p 61473 = .inl e → RF h0 T ψ Q e.1 e.2) (kG : ∀ r, shS T (laS sec a.2.2.2.2.2) (a.2.2.2.1 + a.2.2.2.2.1.length) [] p 61473 = .inr r → RG h0 T ψ Q r.1 (fun y => sec = true → y = r.2)) : WP X mX11_instruction 8 178 0 (en 2 [.ref 25, .int 17]) [] h Q := by
  have hx := nx_p hp
  have h1 := uE_le hx.2
  refine w_iload_n dX11_instruction_0 rfl rfl ?_
  refine w_bipush dX11_instruction_1 (v := 22) (by decide) ?_
  refine w_icmp_lt (tgt := 31) dX11_instruction_3 (by decide) (fun c_3 => ?_) (fun c_3 => absurd c_3 (by decide))
  refine w_iload_n dX11_instruction_31 rfl rfl ?_
  refine w_bipush dX11_instruction_32 (v := 16) (by decide) ?_
  refine w_icmp_lt (tgt := 51) dX11_instruction_34 (by decide) (fun c_34 => absurd c_34 (by decide)) (fun c_34 => ?_)
  refine w_aload_n dX11_instruction_37 rfl rfl ?_
  refine w_ldcw dX11_instruction_38 kX11_343 ?_
  refine w_iload_n dX11_instruction_41 rfl rfl ?_
  refine w_iadd dX11_instruction_42 ?_
  refine w_bipush dX11_instruction_43 (v := 16) (by decide) ?_
  refine w_isub dX11_instruction_45 ?_
  refine u_put (k := 51) (by decide) f q dX11_instruction_46 fX11_331 (fun h1 f1 q1 => ?_)
  refine w_iconst dX11_instruction_49 (v := 1) (by decide) ?_
  refine w_iret dX11_instruction_50 (fun _ e => by cases e; decide) ?_
  exact kG (p, 61473) rfl _ _ f1 q1 (UV.rf.p (Or.inr rfl)) ((uP_k (by decide)).trans np) (fun _ => uP_s.trans (show (61472 : Int32) + 17 - 16 = 61473 from by decide))

set_option maxRecDepth 20000 in
set_option maxHeartbeats 4000000 in
theorem T_in18 {X : Nat × (Nat → Int32)} {h0 h : PH} {Q : Option Value → PH → Prop} {T : List Int32} {ψ : Nat → Nat → Int32} {sec : Bool} {a : AS} (ma : MA T sec a ψ) (hb : a.2.1 = true) {p : Nat} (hB : Byt T) (hp : p ≤ T.length) (np : ψ 25 40 = nI p) (f : Fu h0 h) (q : RU h T ψ) (kF : ∀ e, shS T (laS sec a.2.2.2.2.2) (a.2.2.2.1 + a.2.2.2.2.1.length) [] p 61474 = .inl e → RF h0 T ψ Q e.1 e.2) (kG : ∀ r, shS T (laS sec a.2.2.2.2.2) (a.2.2.2.1 + a.2.2.2.2.1.length) [] p 61474 = .inr r → RG h0 T ψ Q r.1 (fun y => sec = true → y = r.2)) : WP X mX11_instruction 8 178 0 (en 2 [.ref 25, .int 18]) [] h Q := by
  have hx := nx_p hp
  have h1 := uE_le hx.2
  refine w_iload_n dX11_instruction_0 rfl rfl ?_
  refine w_bipush dX11_instruction_1 (v := 22) (by decide) ?_
  refine w_icmp_lt (tgt := 31) dX11_instruction_3 (by decide) (fun c_3 => ?_) (fun c_3 => absurd c_3 (by decide))
  refine w_iload_n dX11_instruction_31 rfl rfl ?_
  refine w_bipush dX11_instruction_32 (v := 16) (by decide) ?_
  refine w_icmp_lt (tgt := 51) dX11_instruction_34 (by decide) (fun c_34 => absurd c_34 (by decide)) (fun c_34 => ?_)
  refine w_aload_n dX11_instruction_37 rfl rfl ?_
  refine w_ldcw dX11_instruction_38 kX11_343 ?_
  refine w_iload_n dX11_instruction_41 rfl rfl ?_
  refine w_iadd dX11_instruction_42 ?_
  refine w_bipush dX11_instruction_43 (v := 16) (by decide) ?_
  refine w_isub dX11_instruction_45 ?_
  refine u_put (k := 51) (by decide) f q dX11_instruction_46 fX11_331 (fun h1 f1 q1 => ?_)
  refine w_iconst dX11_instruction_49 (v := 1) (by decide) ?_
  refine w_iret dX11_instruction_50 (fun _ e => by cases e; decide) ?_
  exact kG (p, 61474) rfl _ _ f1 q1 (UV.rf.p (Or.inr rfl)) ((uP_k (by decide)).trans np) (fun _ => uP_s.trans (show (61472 : Int32) + 18 - 16 = 61474 from by decide))

set_option maxRecDepth 20000 in
set_option maxHeartbeats 4000000 in
theorem T_in19 {X : Nat × (Nat → Int32)} {h0 h : PH} {Q : Option Value → PH → Prop} {T : List Int32} {ψ : Nat → Nat → Int32} {sec : Bool} {a : AS} (ma : MA T sec a ψ) (hb : a.2.1 = true) {p : Nat} (hB : Byt T) (hp : p ≤ T.length) (np : ψ 25 40 = nI p) (f : Fu h0 h) (q : RU h T ψ) (kF : ∀ e, shS T (laS sec a.2.2.2.2.2) (a.2.2.2.1 + a.2.2.2.2.1.length) [] p 61475 = .inl e → RF h0 T ψ Q e.1 e.2) (kG : ∀ r, shS T (laS sec a.2.2.2.2.2) (a.2.2.2.1 + a.2.2.2.2.1.length) [] p 61475 = .inr r → RG h0 T ψ Q r.1 (fun y => sec = true → y = r.2)) : WP X mX11_instruction 8 178 0 (en 2 [.ref 25, .int 19]) [] h Q := by
  have hx := nx_p hp
  have h1 := uE_le hx.2
  refine w_iload_n dX11_instruction_0 rfl rfl ?_
  refine w_bipush dX11_instruction_1 (v := 22) (by decide) ?_
  refine w_icmp_lt (tgt := 31) dX11_instruction_3 (by decide) (fun c_3 => ?_) (fun c_3 => absurd c_3 (by decide))
  refine w_iload_n dX11_instruction_31 rfl rfl ?_
  refine w_bipush dX11_instruction_32 (v := 16) (by decide) ?_
  refine w_icmp_lt (tgt := 51) dX11_instruction_34 (by decide) (fun c_34 => absurd c_34 (by decide)) (fun c_34 => ?_)
  refine w_aload_n dX11_instruction_37 rfl rfl ?_
  refine w_ldcw dX11_instruction_38 kX11_343 ?_
  refine w_iload_n dX11_instruction_41 rfl rfl ?_
  refine w_iadd dX11_instruction_42 ?_
  refine w_bipush dX11_instruction_43 (v := 16) (by decide) ?_
  refine w_isub dX11_instruction_45 ?_
  refine u_put (k := 51) (by decide) f q dX11_instruction_46 fX11_331 (fun h1 f1 q1 => ?_)
  refine w_iconst dX11_instruction_49 (v := 1) (by decide) ?_
  refine w_iret dX11_instruction_50 (fun _ e => by cases e; decide) ?_
  exact kG (p, 61475) rfl _ _ f1 q1 (UV.rf.p (Or.inr rfl)) ((uP_k (by decide)).trans np) (fun _ => uP_s.trans (show (61472 : Int32) + 19 - 16 = 61475 from by decide))

set_option maxRecDepth 20000 in
set_option maxHeartbeats 4000000 in
theorem T_in20 {X : Nat × (Nat → Int32)} {h0 h : PH} {Q : Option Value → PH → Prop} {T : List Int32} {ψ : Nat → Nat → Int32} {sec : Bool} {a : AS} (ma : MA T sec a ψ) (hb : a.2.1 = true) {p : Nat} (hB : Byt T) (hp : p ≤ T.length) (np : ψ 25 40 = nI p) (f : Fu h0 h) (q : RU h T ψ) (kF : ∀ e, shS T (laS sec a.2.2.2.2.2) (a.2.2.2.1 + a.2.2.2.2.1.length) [] p 61476 = .inl e → RF h0 T ψ Q e.1 e.2) (kG : ∀ r, shS T (laS sec a.2.2.2.2.2) (a.2.2.2.1 + a.2.2.2.2.1.length) [] p 61476 = .inr r → RG h0 T ψ Q r.1 (fun y => sec = true → y = r.2)) : WP X mX11_instruction 8 178 0 (en 2 [.ref 25, .int 20]) [] h Q := by
  have hx := nx_p hp
  have h1 := uE_le hx.2
  refine w_iload_n dX11_instruction_0 rfl rfl ?_
  refine w_bipush dX11_instruction_1 (v := 22) (by decide) ?_
  refine w_icmp_lt (tgt := 31) dX11_instruction_3 (by decide) (fun c_3 => ?_) (fun c_3 => absurd c_3 (by decide))
  refine w_iload_n dX11_instruction_31 rfl rfl ?_
  refine w_bipush dX11_instruction_32 (v := 16) (by decide) ?_
  refine w_icmp_lt (tgt := 51) dX11_instruction_34 (by decide) (fun c_34 => absurd c_34 (by decide)) (fun c_34 => ?_)
  refine w_aload_n dX11_instruction_37 rfl rfl ?_
  refine w_ldcw dX11_instruction_38 kX11_343 ?_
  refine w_iload_n dX11_instruction_41 rfl rfl ?_
  refine w_iadd dX11_instruction_42 ?_
  refine w_bipush dX11_instruction_43 (v := 16) (by decide) ?_
  refine w_isub dX11_instruction_45 ?_
  refine u_put (k := 51) (by decide) f q dX11_instruction_46 fX11_331 (fun h1 f1 q1 => ?_)
  refine w_iconst dX11_instruction_49 (v := 1) (by decide) ?_
  refine w_iret dX11_instruction_50 (fun _ e => by cases e; decide) ?_
  exact kG (p, 61476) rfl _ _ f1 q1 (UV.rf.p (Or.inr rfl)) ((uP_k (by decide)).trans np) (fun _ => uP_s.trans (show (61472 : Int32) + 20 - 16 = 61476 from by decide))

set_option maxRecDepth 20000 in
set_option maxHeartbeats 4000000 in
theorem T_in21 {X : Nat × (Nat → Int32)} {h0 h : PH} {Q : Option Value → PH → Prop} {T : List Int32} {ψ : Nat → Nat → Int32} {sec : Bool} {a : AS} (ma : MA T sec a ψ) (hb : a.2.1 = true) {p : Nat} (hB : Byt T) (hp : p ≤ T.length) (np : ψ 25 40 = nI p) (f : Fu h0 h) (q : RU h T ψ) (kF : ∀ e, shS T (laS sec a.2.2.2.2.2) (a.2.2.2.1 + a.2.2.2.2.1.length) [] p 61477 = .inl e → RF h0 T ψ Q e.1 e.2) (kG : ∀ r, shS T (laS sec a.2.2.2.2.2) (a.2.2.2.1 + a.2.2.2.2.1.length) [] p 61477 = .inr r → RG h0 T ψ Q r.1 (fun y => sec = true → y = r.2)) : WP X mX11_instruction 8 178 0 (en 2 [.ref 25, .int 21]) [] h Q := by
  have hx := nx_p hp
  have h1 := uE_le hx.2
  refine w_iload_n dX11_instruction_0 rfl rfl ?_
  refine w_bipush dX11_instruction_1 (v := 22) (by decide) ?_
  refine w_icmp_lt (tgt := 31) dX11_instruction_3 (by decide) (fun c_3 => ?_) (fun c_3 => absurd c_3 (by decide))
  refine w_iload_n dX11_instruction_31 rfl rfl ?_
  refine w_bipush dX11_instruction_32 (v := 16) (by decide) ?_
  refine w_icmp_lt (tgt := 51) dX11_instruction_34 (by decide) (fun c_34 => absurd c_34 (by decide)) (fun c_34 => ?_)
  refine w_aload_n dX11_instruction_37 rfl rfl ?_
  refine w_ldcw dX11_instruction_38 kX11_343 ?_
  refine w_iload_n dX11_instruction_41 rfl rfl ?_
  refine w_iadd dX11_instruction_42 ?_
  refine w_bipush dX11_instruction_43 (v := 16) (by decide) ?_
  refine w_isub dX11_instruction_45 ?_
  refine u_put (k := 51) (by decide) f q dX11_instruction_46 fX11_331 (fun h1 f1 q1 => ?_)
  refine w_iconst dX11_instruction_49 (v := 1) (by decide) ?_
  refine w_iret dX11_instruction_50 (fun _ e => by cases e; decide) ?_
  exact kG (p, 61477) rfl _ _ f1 q1 (UV.rf.p (Or.inr rfl)) ((uP_k (by decide)).trans np) (fun _ => uP_s.trans (show (61472 : Int32) + 21 - 16 = 61477 from by decide))

set_option maxRecDepth 20000 in
set_option maxHeartbeats 4000000 in
theorem T_in22 {X : Nat × (Nat → Int32)} {h0 h : PH} {Q : Option Value → PH → Prop} {T : List Int32} {ψ : Nat → Nat → Int32} {sec : Bool} {a : AS} (ma : MA T sec a ψ) (hb : a.2.1 = true) {p : Nat} (hB : Byt T) (hp : p ≤ T.length) (np : ψ 25 40 = nI p) (f : Fu h0 h) (q : RU h T ψ) (kF : ∀ e, shS T (laS sec a.2.2.2.2.2) (a.2.2.2.1 + a.2.2.2.2.1.length) [87] p 3584 = .inl e → RF h0 T ψ Q e.1 e.2) (kG : ∀ r, shS T (laS sec a.2.2.2.2.2) (a.2.2.2.1 + a.2.2.2.2.1.length) [87] p 3584 = .inr r → RG h0 T ψ Q r.1 (fun y => sec = true → y = r.2)) : WP X mX11_instruction 8 178 0 (en 2 [.ref 25, .int 22]) [] h Q := by
  have hx := nx_p hp
  have h1 := uE_le hx.2
  refine w_iload_n dX11_instruction_0 rfl rfl ?_
  refine w_bipush dX11_instruction_1 (v := 22) (by decide) ?_
  refine w_icmp_lt (tgt := 31) dX11_instruction_3 (by decide) (fun c_3 => absurd c_3 (by decide)) (fun c_3 => ?_)
  refine w_aload_n dX11_instruction_6 rfl rfl ?_
  refine w_bipush dX11_instruction_7 (v := 9) (by decide) ?_
  refine w_iload_n dX11_instruction_9 rfl rfl ?_
  refine w_bipush dX11_instruction_10 (v := 22) (by decide) ?_
  refine w_icmp_ne (tgt := 20) dX11_instruction_12 (by decide) (fun c_12 => absurd c_12 (by decide)) (fun c_12 => ?_)
  refine w_bipush dX11_instruction_15 (v := 7) (by decide) ?_
  refine w_goto (tgt := 24) dX11_instruction_17 (by decide) ?_
  refine w_bipush dX11_instruction_24 (v := 9) (by decide) ?_
  refine w_ishl dX11_instruction_26 ?_
  refine w_v2 (d2 := 7) (L2 := 156) dX11_instruction_27 vX11_340 rfl (q.1.lt (by decide)) rfl rfl (by decide) (Nat.le_of_ble_eq_true rfl) (by decide) (by decide) ?_
  refine T_mwh9 (w0 := 3584) ma hb (fun _ => by decide) hB hp np f q (fun e e1 ha φa fa qa z1 z2 z3 => ?_) (fun xa e1 ha φa fa qa z1 z2 z3 => ?_)
  · refine k_i rfl ?_
    refine w_iret dX11_instruction_30 (fun _ e => by cases e; decide) ?_
    exact kF (e, nx T p) (by rw [shS, show opS T _ _ 87 (nx T p) 3584 = .inl e from e1]) _ _ fa qa z1 z2 z3
  · refine k_i rfl ?_
    refine w_iret dX11_instruction_30 (fun _ e => by cases e; decide) ?_
    exact kG (uE T (nx T p), xa) (by rw [shS, show opS T _ _ 87 (nx T p) 3584 = .inr xa from e1]; rfl) _ _ fa qa z1 z2 z3

set_option maxRecDepth 20000 in
set_option maxHeartbeats 4000000 in
theorem T_in23 {X : Nat × (Nat → Int32)} {h0 h : PH} {Q : Option Value → PH → Prop} {T : List Int32} {ψ : Nat → Nat → Int32} {sec : Bool} {a : AS} (ma : MA T sec a ψ) (hb : a.2.1 = true) {p : Nat} (hB : Byt T) (hp : p ≤ T.length) (np : ψ 25 40 = nI p) (f : Fu h0 h) (q : RU h T ψ) (kF : ∀ e, shS T (laS sec a.2.2.2.2.2) (a.2.2.2.1 + a.2.2.2.2.1.length) [87] p 512 = .inl e → RF h0 T ψ Q e.1 e.2) (kG : ∀ r, shS T (laS sec a.2.2.2.2.2) (a.2.2.2.1 + a.2.2.2.2.1.length) [87] p 512 = .inr r → RG h0 T ψ Q r.1 (fun y => sec = true → y = r.2)) : WP X mX11_instruction 8 178 0 (en 2 [.ref 25, .int 23]) [] h Q := by
  have hx := nx_p hp
  have h1 := uE_le hx.2
  refine w_iload_n dX11_instruction_0 rfl rfl ?_
  refine w_bipush dX11_instruction_1 (v := 22) (by decide) ?_
  refine w_icmp_lt (tgt := 31) dX11_instruction_3 (by decide) (fun c_3 => absurd c_3 (by decide)) (fun c_3 => ?_)
  refine w_aload_n dX11_instruction_6 rfl rfl ?_
  refine w_bipush dX11_instruction_7 (v := 9) (by decide) ?_
  refine w_iload_n dX11_instruction_9 rfl rfl ?_
  refine w_bipush dX11_instruction_10 (v := 22) (by decide) ?_
  refine w_icmp_ne (tgt := 20) dX11_instruction_12 (by decide) (fun c_12 => ?_) (fun c_12 => absurd c_12 (by decide))
  refine w_iload_n dX11_instruction_20 rfl rfl ?_
  refine w_bipush dX11_instruction_21 (v := 22) (by decide) ?_
  refine w_isub dX11_instruction_23 ?_
  refine w_bipush dX11_instruction_24 (v := 9) (by decide) ?_
  refine w_ishl dX11_instruction_26 ?_
  refine w_v2 (d2 := 7) (L2 := 156) dX11_instruction_27 vX11_340 rfl (q.1.lt (by decide)) rfl rfl (by decide) (Nat.le_of_ble_eq_true rfl) (by decide) (by decide) ?_
  refine T_mwh9 (w0 := 512) ma hb (fun _ => by decide) hB hp np f q (fun e e1 ha φa fa qa z1 z2 z3 => ?_) (fun xa e1 ha φa fa qa z1 z2 z3 => ?_)
  · refine k_i rfl ?_
    refine w_iret dX11_instruction_30 (fun _ e => by cases e; decide) ?_
    exact kF (e, nx T p) (by rw [shS, show opS T _ _ 87 (nx T p) 512 = .inl e from e1]) _ _ fa qa z1 z2 z3
  · refine k_i rfl ?_
    refine w_iret dX11_instruction_30 (fun _ e => by cases e; decide) ?_
    exact kG (uE T (nx T p), xa) (by rw [shS, show opS T _ _ 87 (nx T p) 512 = .inr xa from e1]; rfl) _ _ fa qa z1 z2 z3

set_option maxRecDepth 20000 in
set_option maxHeartbeats 4000000 in
theorem T_in24 {X : Nat × (Nat → Int32)} {h0 h : PH} {Q : Option Value → PH → Prop} {T : List Int32} {ψ : Nat → Nat → Int32} {sec : Bool} {a : AS} (ma : MA T sec a ψ) (hb : a.2.1 = true) {p : Nat} (hB : Byt T) (hp : p ≤ T.length) (np : ψ 25 40 = nI p) (f : Fu h0 h) (q : RU h T ψ) (kF : ∀ e, shS T (laS sec a.2.2.2.2.2) (a.2.2.2.1 + a.2.2.2.2.1.length) [87] p 1024 = .inl e → RF h0 T ψ Q e.1 e.2) (kG : ∀ r, shS T (laS sec a.2.2.2.2.2) (a.2.2.2.1 + a.2.2.2.2.1.length) [87] p 1024 = .inr r → RG h0 T ψ Q r.1 (fun y => sec = true → y = r.2)) : WP X mX11_instruction 8 178 0 (en 2 [.ref 25, .int 24]) [] h Q := by
  have hx := nx_p hp
  have h1 := uE_le hx.2
  refine w_iload_n dX11_instruction_0 rfl rfl ?_
  refine w_bipush dX11_instruction_1 (v := 22) (by decide) ?_
  refine w_icmp_lt (tgt := 31) dX11_instruction_3 (by decide) (fun c_3 => absurd c_3 (by decide)) (fun c_3 => ?_)
  refine w_aload_n dX11_instruction_6 rfl rfl ?_
  refine w_bipush dX11_instruction_7 (v := 9) (by decide) ?_
  refine w_iload_n dX11_instruction_9 rfl rfl ?_
  refine w_bipush dX11_instruction_10 (v := 22) (by decide) ?_
  refine w_icmp_ne (tgt := 20) dX11_instruction_12 (by decide) (fun c_12 => ?_) (fun c_12 => absurd c_12 (by decide))
  refine w_iload_n dX11_instruction_20 rfl rfl ?_
  refine w_bipush dX11_instruction_21 (v := 22) (by decide) ?_
  refine w_isub dX11_instruction_23 ?_
  refine w_bipush dX11_instruction_24 (v := 9) (by decide) ?_
  refine w_ishl dX11_instruction_26 ?_
  refine w_v2 (d2 := 7) (L2 := 156) dX11_instruction_27 vX11_340 rfl (q.1.lt (by decide)) rfl rfl (by decide) (Nat.le_of_ble_eq_true rfl) (by decide) (by decide) ?_
  refine T_mwh9 (w0 := 1024) ma hb (fun _ => by decide) hB hp np f q (fun e e1 ha φa fa qa z1 z2 z3 => ?_) (fun xa e1 ha φa fa qa z1 z2 z3 => ?_)
  · refine k_i rfl ?_
    refine w_iret dX11_instruction_30 (fun _ e => by cases e; decide) ?_
    exact kF (e, nx T p) (by rw [shS, show opS T _ _ 87 (nx T p) 1024 = .inl e from e1]) _ _ fa qa z1 z2 z3
  · refine k_i rfl ?_
    refine w_iret dX11_instruction_30 (fun _ e => by cases e; decide) ?_
    exact kG (uE T (nx T p), xa) (by rw [shS, show opS T _ _ 87 (nx T p) 1024 = .inr xa from e1]; rfl) _ _ fa qa z1 z2 z3

set_option maxRecDepth 20000 in
set_option maxHeartbeats 4000000 in
theorem T_in25 {X : Nat × (Nat → Int32)} {h0 h : PH} {Q : Option Value → PH → Prop} {T : List Int32} {ψ : Nat → Nat → Int32} {sec : Bool} {a : AS} (ma : MA T sec a ψ) (hb : a.2.1 = true) {p : Nat} (hB : Byt T) (hp : p ≤ T.length) (np : ψ 25 40 = nI p) (f : Fu h0 h) (q : RU h T ψ) (kF : ∀ e, shS T (laS sec a.2.2.2.2.2) (a.2.2.2.1 + a.2.2.2.2.1.length) [87] p 1536 = .inl e → RF h0 T ψ Q e.1 e.2) (kG : ∀ r, shS T (laS sec a.2.2.2.2.2) (a.2.2.2.1 + a.2.2.2.2.1.length) [87] p 1536 = .inr r → RG h0 T ψ Q r.1 (fun y => sec = true → y = r.2)) : WP X mX11_instruction 8 178 0 (en 2 [.ref 25, .int 25]) [] h Q := by
  have hx := nx_p hp
  have h1 := uE_le hx.2
  refine w_iload_n dX11_instruction_0 rfl rfl ?_
  refine w_bipush dX11_instruction_1 (v := 22) (by decide) ?_
  refine w_icmp_lt (tgt := 31) dX11_instruction_3 (by decide) (fun c_3 => absurd c_3 (by decide)) (fun c_3 => ?_)
  refine w_aload_n dX11_instruction_6 rfl rfl ?_
  refine w_bipush dX11_instruction_7 (v := 9) (by decide) ?_
  refine w_iload_n dX11_instruction_9 rfl rfl ?_
  refine w_bipush dX11_instruction_10 (v := 22) (by decide) ?_
  refine w_icmp_ne (tgt := 20) dX11_instruction_12 (by decide) (fun c_12 => ?_) (fun c_12 => absurd c_12 (by decide))
  refine w_iload_n dX11_instruction_20 rfl rfl ?_
  refine w_bipush dX11_instruction_21 (v := 22) (by decide) ?_
  refine w_isub dX11_instruction_23 ?_
  refine w_bipush dX11_instruction_24 (v := 9) (by decide) ?_
  refine w_ishl dX11_instruction_26 ?_
  refine w_v2 (d2 := 7) (L2 := 156) dX11_instruction_27 vX11_340 rfl (q.1.lt (by decide)) rfl rfl (by decide) (Nat.le_of_ble_eq_true rfl) (by decide) (by decide) ?_
  refine T_mwh9 (w0 := 1536) ma hb (fun _ => by decide) hB hp np f q (fun e e1 ha φa fa qa z1 z2 z3 => ?_) (fun xa e1 ha φa fa qa z1 z2 z3 => ?_)
  · refine k_i rfl ?_
    refine w_iret dX11_instruction_30 (fun _ e => by cases e; decide) ?_
    exact kF (e, nx T p) (by rw [shS, show opS T _ _ 87 (nx T p) 1536 = .inl e from e1]) _ _ fa qa z1 z2 z3
  · refine k_i rfl ?_
    refine w_iret dX11_instruction_30 (fun _ e => by cases e; decide) ?_
    exact kG (uE T (nx T p), xa) (by rw [shS, show opS T _ _ 87 (nx T p) 1536 = .inr xa from e1]; rfl) _ _ fa qa z1 z2 z3

set_option maxRecDepth 20000 in
set_option maxHeartbeats 4000000 in
theorem T_in26 {X : Nat × (Nat → Int32)} {h0 h : PH} {Q : Option Value → PH → Prop} {T : List Int32} {ψ : Nat → Nat → Int32} {sec : Bool} {a : AS} (ma : MA T sec a ψ) (hb : a.2.1 = true) {p : Nat} (hB : Byt T) (hp : p ≤ T.length) (np : ψ 25 40 = nI p) (f : Fu h0 h) (q : RU h T ψ) (kF : ∀ e, shS T (laS sec a.2.2.2.2.2) (a.2.2.2.1 + a.2.2.2.2.1.length) [87] p 2048 = .inl e → RF h0 T ψ Q e.1 e.2) (kG : ∀ r, shS T (laS sec a.2.2.2.2.2) (a.2.2.2.1 + a.2.2.2.2.1.length) [87] p 2048 = .inr r → RG h0 T ψ Q r.1 (fun y => sec = true → y = r.2)) : WP X mX11_instruction 8 178 0 (en 2 [.ref 25, .int 26]) [] h Q := by
  have hx := nx_p hp
  have h1 := uE_le hx.2
  refine w_iload_n dX11_instruction_0 rfl rfl ?_
  refine w_bipush dX11_instruction_1 (v := 22) (by decide) ?_
  refine w_icmp_lt (tgt := 31) dX11_instruction_3 (by decide) (fun c_3 => absurd c_3 (by decide)) (fun c_3 => ?_)
  refine w_aload_n dX11_instruction_6 rfl rfl ?_
  refine w_bipush dX11_instruction_7 (v := 9) (by decide) ?_
  refine w_iload_n dX11_instruction_9 rfl rfl ?_
  refine w_bipush dX11_instruction_10 (v := 22) (by decide) ?_
  refine w_icmp_ne (tgt := 20) dX11_instruction_12 (by decide) (fun c_12 => ?_) (fun c_12 => absurd c_12 (by decide))
  refine w_iload_n dX11_instruction_20 rfl rfl ?_
  refine w_bipush dX11_instruction_21 (v := 22) (by decide) ?_
  refine w_isub dX11_instruction_23 ?_
  refine w_bipush dX11_instruction_24 (v := 9) (by decide) ?_
  refine w_ishl dX11_instruction_26 ?_
  refine w_v2 (d2 := 7) (L2 := 156) dX11_instruction_27 vX11_340 rfl (q.1.lt (by decide)) rfl rfl (by decide) (Nat.le_of_ble_eq_true rfl) (by decide) (by decide) ?_
  refine T_mwh9 (w0 := 2048) ma hb (fun _ => by decide) hB hp np f q (fun e e1 ha φa fa qa z1 z2 z3 => ?_) (fun xa e1 ha φa fa qa z1 z2 z3 => ?_)
  · refine k_i rfl ?_
    refine w_iret dX11_instruction_30 (fun _ e => by cases e; decide) ?_
    exact kF (e, nx T p) (by rw [shS, show opS T _ _ 87 (nx T p) 2048 = .inl e from e1]) _ _ fa qa z1 z2 z3
  · refine k_i rfl ?_
    refine w_iret dX11_instruction_30 (fun _ e => by cases e; decide) ?_
    exact kG (uE T (nx T p), xa) (by rw [shS, show opS T _ _ 87 (nx T p) 2048 = .inr xa from e1]; rfl) _ _ fa qa z1 z2 z3

set_option maxRecDepth 20000 in
set_option maxHeartbeats 4000000 in
theorem T_in27 {X : Nat × (Nat → Int32)} {h0 h : PH} {Q : Option Value → PH → Prop} {T : List Int32} {ψ : Nat → Nat → Int32} {sec : Bool} {a : AS} (ma : MA T sec a ψ) (hb : a.2.1 = true) {p : Nat} (hB : Byt T) (hp : p ≤ T.length) (np : ψ 25 40 = nI p) (f : Fu h0 h) (q : RU h T ψ) (kF : ∀ e, shS T (laS sec a.2.2.2.2.2) (a.2.2.2.1 + a.2.2.2.2.1.length) [87] p 2560 = .inl e → RF h0 T ψ Q e.1 e.2) (kG : ∀ r, shS T (laS sec a.2.2.2.2.2) (a.2.2.2.1 + a.2.2.2.2.1.length) [87] p 2560 = .inr r → RG h0 T ψ Q r.1 (fun y => sec = true → y = r.2)) : WP X mX11_instruction 8 178 0 (en 2 [.ref 25, .int 27]) [] h Q := by
  have hx := nx_p hp
  have h1 := uE_le hx.2
  refine w_iload_n dX11_instruction_0 rfl rfl ?_
  refine w_bipush dX11_instruction_1 (v := 22) (by decide) ?_
  refine w_icmp_lt (tgt := 31) dX11_instruction_3 (by decide) (fun c_3 => absurd c_3 (by decide)) (fun c_3 => ?_)
  refine w_aload_n dX11_instruction_6 rfl rfl ?_
  refine w_bipush dX11_instruction_7 (v := 9) (by decide) ?_
  refine w_iload_n dX11_instruction_9 rfl rfl ?_
  refine w_bipush dX11_instruction_10 (v := 22) (by decide) ?_
  refine w_icmp_ne (tgt := 20) dX11_instruction_12 (by decide) (fun c_12 => ?_) (fun c_12 => absurd c_12 (by decide))
  refine w_iload_n dX11_instruction_20 rfl rfl ?_
  refine w_bipush dX11_instruction_21 (v := 22) (by decide) ?_
  refine w_isub dX11_instruction_23 ?_
  refine w_bipush dX11_instruction_24 (v := 9) (by decide) ?_
  refine w_ishl dX11_instruction_26 ?_
  refine w_v2 (d2 := 7) (L2 := 156) dX11_instruction_27 vX11_340 rfl (q.1.lt (by decide)) rfl rfl (by decide) (Nat.le_of_ble_eq_true rfl) (by decide) (by decide) ?_
  refine T_mwh9 (w0 := 2560) ma hb (fun _ => by decide) hB hp np f q (fun e e1 ha φa fa qa z1 z2 z3 => ?_) (fun xa e1 ha φa fa qa z1 z2 z3 => ?_)
  · refine k_i rfl ?_
    refine w_iret dX11_instruction_30 (fun _ e => by cases e; decide) ?_
    exact kF (e, nx T p) (by rw [shS, show opS T _ _ 87 (nx T p) 2560 = .inl e from e1]) _ _ fa qa z1 z2 z3
  · refine k_i rfl ?_
    refine w_iret dX11_instruction_30 (fun _ e => by cases e; decide) ?_
    exact kG (uE T (nx T p), xa) (by rw [shS, show opS T _ _ 87 (nx T p) 2560 = .inr xa from e1]; rfl) _ _ fa qa z1 z2 z3

set_option maxRecDepth 20000 in
set_option maxHeartbeats 4000000 in
theorem T_in28 {X : Nat × (Nat → Int32)} {h0 h : PH} {Q : Option Value → PH → Prop} {T : List Int32} {ψ : Nat → Nat → Int32} {sec : Bool} {a : AS} (ma : MA T sec a ψ) (hb : a.2.1 = true) {p : Nat} (hB : Byt T) (hp : p ≤ T.length) (np : ψ 25 40 = nI p) (f : Fu h0 h) (q : RU h T ψ) (kF : ∀ e, shS T (laS sec a.2.2.2.2.2) (a.2.2.2.1 + a.2.2.2.2.1.length) [87] p 3072 = .inl e → RF h0 T ψ Q e.1 e.2) (kG : ∀ r, shS T (laS sec a.2.2.2.2.2) (a.2.2.2.1 + a.2.2.2.2.1.length) [87] p 3072 = .inr r → RG h0 T ψ Q r.1 (fun y => sec = true → y = r.2)) : WP X mX11_instruction 8 178 0 (en 2 [.ref 25, .int 28]) [] h Q := by
  have hx := nx_p hp
  have h1 := uE_le hx.2
  refine w_iload_n dX11_instruction_0 rfl rfl ?_
  refine w_bipush dX11_instruction_1 (v := 22) (by decide) ?_
  refine w_icmp_lt (tgt := 31) dX11_instruction_3 (by decide) (fun c_3 => absurd c_3 (by decide)) (fun c_3 => ?_)
  refine w_aload_n dX11_instruction_6 rfl rfl ?_
  refine w_bipush dX11_instruction_7 (v := 9) (by decide) ?_
  refine w_iload_n dX11_instruction_9 rfl rfl ?_
  refine w_bipush dX11_instruction_10 (v := 22) (by decide) ?_
  refine w_icmp_ne (tgt := 20) dX11_instruction_12 (by decide) (fun c_12 => ?_) (fun c_12 => absurd c_12 (by decide))
  refine w_iload_n dX11_instruction_20 rfl rfl ?_
  refine w_bipush dX11_instruction_21 (v := 22) (by decide) ?_
  refine w_isub dX11_instruction_23 ?_
  refine w_bipush dX11_instruction_24 (v := 9) (by decide) ?_
  refine w_ishl dX11_instruction_26 ?_
  refine w_v2 (d2 := 7) (L2 := 156) dX11_instruction_27 vX11_340 rfl (q.1.lt (by decide)) rfl rfl (by decide) (Nat.le_of_ble_eq_true rfl) (by decide) (by decide) ?_
  refine T_mwh9 (w0 := 3072) ma hb (fun _ => by decide) hB hp np f q (fun e e1 ha φa fa qa z1 z2 z3 => ?_) (fun xa e1 ha φa fa qa z1 z2 z3 => ?_)
  · refine k_i rfl ?_
    refine w_iret dX11_instruction_30 (fun _ e => by cases e; decide) ?_
    exact kF (e, nx T p) (by rw [shS, show opS T _ _ 87 (nx T p) 3072 = .inl e from e1]) _ _ fa qa z1 z2 z3
  · refine k_i rfl ?_
    refine w_iret dX11_instruction_30 (fun _ e => by cases e; decide) ?_
    exact kG (uE T (nx T p), xa) (by rw [shS, show opS T _ _ 87 (nx T p) 3072 = .inr xa from e1]; rfl) _ _ fa qa z1 z2 z3

set_option maxRecDepth 20000 in
set_option maxHeartbeats 4000000 in
theorem T_in29 {X : Nat × (Nat → Int32)} {h0 h : PH} {Q : Option Value → PH → Prop} {T : List Int32} {ψ : Nat → Nat → Int32} {sec : Bool} {a : AS} (ma : MA T sec a ψ) (hb : a.2.1 = true) {p : Nat} (hB : Byt T) (hp : p ≤ T.length) (np : ψ 25 40 = nI p) (f : Fu h0 h) (q : RU h T ψ) (kF : ∀ e, shS T (laS sec a.2.2.2.2.2) (a.2.2.2.1 + a.2.2.2.2.1.length) [87] p 3584 = .inl e → RF h0 T ψ Q e.1 e.2) (kG : ∀ r, shS T (laS sec a.2.2.2.2.2) (a.2.2.2.1 + a.2.2.2.2.1.length) [87] p 3584 = .inr r → RG h0 T ψ Q r.1 (fun y => sec = true → y = r.2)) : WP X mX11_instruction 8 178 0 (en 2 [.ref 25, .int 29]) [] h Q := by
  have hx := nx_p hp
  have h1 := uE_le hx.2
  refine w_iload_n dX11_instruction_0 rfl rfl ?_
  refine w_bipush dX11_instruction_1 (v := 22) (by decide) ?_
  refine w_icmp_lt (tgt := 31) dX11_instruction_3 (by decide) (fun c_3 => absurd c_3 (by decide)) (fun c_3 => ?_)
  refine w_aload_n dX11_instruction_6 rfl rfl ?_
  refine w_bipush dX11_instruction_7 (v := 9) (by decide) ?_
  refine w_iload_n dX11_instruction_9 rfl rfl ?_
  refine w_bipush dX11_instruction_10 (v := 22) (by decide) ?_
  refine w_icmp_ne (tgt := 20) dX11_instruction_12 (by decide) (fun c_12 => ?_) (fun c_12 => absurd c_12 (by decide))
  refine w_iload_n dX11_instruction_20 rfl rfl ?_
  refine w_bipush dX11_instruction_21 (v := 22) (by decide) ?_
  refine w_isub dX11_instruction_23 ?_
  refine w_bipush dX11_instruction_24 (v := 9) (by decide) ?_
  refine w_ishl dX11_instruction_26 ?_
  refine w_v2 (d2 := 7) (L2 := 156) dX11_instruction_27 vX11_340 rfl (q.1.lt (by decide)) rfl rfl (by decide) (Nat.le_of_ble_eq_true rfl) (by decide) (by decide) ?_
  refine T_mwh9 (w0 := 3584) ma hb (fun _ => by decide) hB hp np f q (fun e e1 ha φa fa qa z1 z2 z3 => ?_) (fun xa e1 ha φa fa qa z1 z2 z3 => ?_)
  · refine k_i rfl ?_
    refine w_iret dX11_instruction_30 (fun _ e => by cases e; decide) ?_
    exact kF (e, nx T p) (by rw [shS, show opS T _ _ 87 (nx T p) 3584 = .inl e from e1]) _ _ fa qa z1 z2 z3
  · refine k_i rfl ?_
    refine w_iret dX11_instruction_30 (fun _ e => by cases e; decide) ?_
    exact kG (uE T (nx T p), xa) (by rw [shS, show opS T _ _ 87 (nx T p) 3584 = .inr xa from e1]; rfl) _ _ fa qa z1 z2 z3

theorem T_inst {X : Nat × (Nat → Int32)} {h0 h : PH} {Q : Option Value → PH → Prop} {T : List Int32} {ψ : Nat → Nat → Int32} {k9 : Nat} (hk : k9 < 30) {sec : Bool} {a : AS} (ma : MA T sec a ψ) (hb : a.2.1 = true) {p : Nat} (hB : Byt T) (hp : p ≤ T.length) (np : ψ 25 40 = nI p) (f : Fu h0 h) (q : RU h T ψ) (kF : ∀ e, shS T (laS sec a.2.2.2.2.2) (a.2.2.2.1 + a.2.2.2.2.1.length) (sB (opSh.getD (opN.getD k9 0) 0)) p (opBase.getD (opN.getD k9 0) 0) = .inl e → RF h0 T ψ Q e.1 e.2) (kG : ∀ r, shS T (laS sec a.2.2.2.2.2) (a.2.2.2.1 + a.2.2.2.2.1.length) (sB (opSh.getD (opN.getD k9 0) 0)) p (opBase.getD (opN.getD k9 0) 0) = .inr r → RG h0 T ψ Q r.1 (fun y => sec = true → y = r.2)) : WP X mX11_instruction 8 178 0 (en 2 [.ref 25, .int (nI k9)]) [] h Q := by
  by_cases c0 : k9 = 0
  · subst c0
    rw [show sB (opSh.getD (opN.getD 0 0) 0) = [68, 65, 83] from by decide +kernel, show opBase.getD (opN.getD 0 0) 0 = 4096 from by decide +kernel] at kF kG
    exact T_in0 ma hb hB hp np f q kF kG
  by_cases c1 : k9 = 1
  · subst c1
    rw [show sB (opSh.getD (opN.getD 1 0) 0) = [68, 65, 83] from by decide +kernel, show opBase.getD (opN.getD 1 0) 0 = 20480 from by decide +kernel] at kF kG
    exact T_in1 ma hb hB hp np f q kF kG
  by_cases c2 : k9 = 2
  · subst c2
    rw [show sB (opSh.getD (opN.getD 2 0) 0) = [68, 65] from by decide +kernel, show opBase.getD (opN.getD 2 0) 0 = 36927 from by decide +kernel] at kF kG
    exact T_in2 ma hb hB hp np f q kF kG
  by_cases c3 : k9 = 3
  · subst c3
    rw [show sB (opSh.getD (opN.getD 3 0) 0) = [68, 87] from by decide +kernel, show opBase.getD (opN.getD 3 0) 0 = 8192 from by decide +kernel] at kF kG
    exact T_in3 ma hb hB hp np f q kF kG
  by_cases c4 : k9 = 4
  · subst c4
    rw [show sB (opSh.getD (opN.getD 4 0) 0) = [68, 87] from by decide +kernel, show opBase.getD (opN.getD 4 0) 0 = 40960 from by decide +kernel] at kF kG
    exact T_in4 ma hb hB hp np f q kF kG
  by_cases c5 : k9 = 5
  · subst c5
    rw [show sB (opSh.getD (opN.getD 5 0) 0) = [68, 87] from by decide +kernel, show opBase.getD (opN.getD 5 0) 0 = 57344 from by decide +kernel] at kF kG
    exact T_in5 ma hb hB hp np f q kF kG
  by_cases c6 : k9 = 6
  · subst c6
    rw [show sB (opSh.getD (opN.getD 6 0) 0) = [68, 87] from by decide +kernel, show opBase.getD (opN.getD 6 0) 0 = 12288 from by decide +kernel] at kF kG
    exact T_in6 ma hb hB hp np f q kF kG
  by_cases c7 : k9 = 7
  · subst c7
    rw [show sB (opSh.getD (opN.getD 7 0) 0) = [68, 87] from by decide +kernel, show opBase.getD (opN.getD 7 0) 0 = 45056 from by decide +kernel] at kF kG
    exact T_in7 ma hb hB hp np f q kF kG
  by_cases c8 : k9 = 8
  · subst c8
    rw [show sB (opSh.getD (opN.getD 8 0) 0) = [68, 65, 79] from by decide +kernel, show opBase.getD (opN.getD 8 0) 0 = 24576 from by decide +kernel] at kF kG
    exact T_in8 ma hb hB hp np f q kF kG
  by_cases c9 : k9 = 9
  · subst c9
    rw [show sB (opSh.getD (opN.getD 9 0) 0) = [68, 65, 79] from by decide +kernel, show opBase.getD (opN.getD 9 0) 0 = 28672 from by decide +kernel] at kF kG
    exact T_in9 ma hb hB hp np f q kF kG
  by_cases c10 : k9 = 10
  · subst c10
    rw [show sB (opSh.getD (opN.getD 10 0) 0) = [65] from by decide +kernel, show opBase.getD (opN.getD 10 0) 0 = 49152 from by decide +kernel] at kF kG
    exact T_in10 ma hb hB hp np f q kF kG
  by_cases c11 : k9 = 11
  · subst c11
    rw [show sB (opSh.getD (opN.getD 11 0) 0) = [74] from by decide +kernel, show opBase.getD (opN.getD 11 0) 0 = 18432 from by decide +kernel] at kF kG
    exact T_in11 ma hb hB hp np f q kF kG
  by_cases c12 : k9 = 12
  · subst c12
    rw [show sB (opSh.getD (opN.getD 12 0) 0) = [65] from by decide +kernel, show opBase.getD (opN.getD 12 0) 0 = 16384 from by decide +kernel] at kF kG
    exact T_in12 ma hb hB hp np f q kF kG
  by_cases c13 : k9 = 13
  · subst c13
    rw [show sB (opSh.getD (opN.getD 13 0) 0) = [86] from by decide +kernel, show opBase.getD (opN.getD 13 0) 0 = 61440 from by decide +kernel] at kF kG
    exact T_in13 ma hb hB hp np f q kF kG
  by_cases c14 : k9 = 14
  · subst c14
    rw [show sB (opSh.getD (opN.getD 14 0) 0) = [] from by decide +kernel, show opBase.getD (opN.getD 14 0) 0 = 49600 from by decide +kernel] at kF kG
    exact T_in14 ma hb hB hp np f q kF kG
  by_cases c15 : k9 = 15
  · subst c15
    rw [show sB (opSh.getD (opN.getD 15 0) 0) = [] from by decide +kernel, show opBase.getD (opN.getD 15 0) 0 = 32768 from by decide +kernel] at kF kG
    exact T_in15 ma hb hB hp np f q kF kG
  by_cases c16 : k9 = 16
  · subst c16
    rw [show sB (opSh.getD (opN.getD 16 0) 0) = [] from by decide +kernel, show opBase.getD (opN.getD 16 0) 0 = 61472 from by decide +kernel] at kF kG
    exact T_in16 ma hb hB hp np f q kF kG
  by_cases c17 : k9 = 17
  · subst c17
    rw [show sB (opSh.getD (opN.getD 17 0) 0) = [] from by decide +kernel, show opBase.getD (opN.getD 17 0) 0 = 61473 from by decide +kernel] at kF kG
    exact T_in17 ma hb hB hp np f q kF kG
  by_cases c18 : k9 = 18
  · subst c18
    rw [show sB (opSh.getD (opN.getD 18 0) 0) = [] from by decide +kernel, show opBase.getD (opN.getD 18 0) 0 = 61474 from by decide +kernel] at kF kG
    exact T_in18 ma hb hB hp np f q kF kG
  by_cases c19 : k9 = 19
  · subst c19
    rw [show sB (opSh.getD (opN.getD 19 0) 0) = [] from by decide +kernel, show opBase.getD (opN.getD 19 0) 0 = 61475 from by decide +kernel] at kF kG
    exact T_in19 ma hb hB hp np f q kF kG
  by_cases c20 : k9 = 20
  · subst c20
    rw [show sB (opSh.getD (opN.getD 20 0) 0) = [] from by decide +kernel, show opBase.getD (opN.getD 20 0) 0 = 61476 from by decide +kernel] at kF kG
    exact T_in20 ma hb hB hp np f q kF kG
  by_cases c21 : k9 = 21
  · subst c21
    rw [show sB (opSh.getD (opN.getD 21 0) 0) = [] from by decide +kernel, show opBase.getD (opN.getD 21 0) 0 = 61477 from by decide +kernel] at kF kG
    exact T_in21 ma hb hB hp np f q kF kG
  by_cases c22 : k9 = 22
  · subst c22
    rw [show sB (opSh.getD (opN.getD 22 0) 0) = [87] from by decide +kernel, show opBase.getD (opN.getD 22 0) 0 = 3584 from by decide +kernel] at kF kG
    exact T_in22 ma hb hB hp np f q kF kG
  by_cases c23 : k9 = 23
  · subst c23
    rw [show sB (opSh.getD (opN.getD 23 0) 0) = [87] from by decide +kernel, show opBase.getD (opN.getD 23 0) 0 = 512 from by decide +kernel] at kF kG
    exact T_in23 ma hb hB hp np f q kF kG
  by_cases c24 : k9 = 24
  · subst c24
    rw [show sB (opSh.getD (opN.getD 24 0) 0) = [87] from by decide +kernel, show opBase.getD (opN.getD 24 0) 0 = 1024 from by decide +kernel] at kF kG
    exact T_in24 ma hb hB hp np f q kF kG
  by_cases c25 : k9 = 25
  · subst c25
    rw [show sB (opSh.getD (opN.getD 25 0) 0) = [87] from by decide +kernel, show opBase.getD (opN.getD 25 0) 0 = 1536 from by decide +kernel] at kF kG
    exact T_in25 ma hb hB hp np f q kF kG
  by_cases c26 : k9 = 26
  · subst c26
    rw [show sB (opSh.getD (opN.getD 26 0) 0) = [87] from by decide +kernel, show opBase.getD (opN.getD 26 0) 0 = 2048 from by decide +kernel] at kF kG
    exact T_in26 ma hb hB hp np f q kF kG
  by_cases c27 : k9 = 27
  · subst c27
    rw [show sB (opSh.getD (opN.getD 27 0) 0) = [87] from by decide +kernel, show opBase.getD (opN.getD 27 0) 0 = 2560 from by decide +kernel] at kF kG
    exact T_in27 ma hb hB hp np f q kF kG
  by_cases c28 : k9 = 28
  · subst c28
    rw [show sB (opSh.getD (opN.getD 28 0) 0) = [87] from by decide +kernel, show opBase.getD (opN.getD 28 0) 0 = 3072 from by decide +kernel] at kF kG
    exact T_in28 ma hb hB hp np f q kF kG
  by_cases c29 : k9 = 29
  · subst c29
    rw [show sB (opSh.getD (opN.getD 29 0) 0) = [87] from by decide +kernel, show opBase.getD (opN.getD 29 0) 0 = 3584 from by decide +kernel] at kF kG
    exact T_in29 ma hb hB hp np f q kF kG
  omega

