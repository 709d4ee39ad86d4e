/-! THE REFERENCE's ASSEMBLER: instructions -/
def snS (T : List Int32) (s : Nat) (lo hi : Int32) : RS := if uC T s = 2 then (if uV T s < lo then .inl 2 else if hi < uV T s then .inl 2 else .inr (uV T s)) else .inl 1
theorem nu_sn {T : List Int32} {s : Nat} {lo hi mk w : Int32} : nuS T s lo hi mk w = (match snS T s lo hi with
    | .inl e => .inl e
    | .inr v => .inr (w ||| (v &&& mk))) := by
  unfold nuS snS
  split
  · split
    · rfl
    split <;> rfl
  · rfl
theorem lt_256 {d : Int32} : 256 - 1 < d ↔ 256 ≤ d := by
  rw [Int32.lt_iff_toInt_lt, Int32.le_iff_toInt_le]; show (255 : Int) < d.toInt ↔ (256 : Int) ≤ d.toInt; omega
theorem lt_1024 {d : Int32} : 1024 - 1 < d ↔ 1024 ≤ d := by
  rw [Int32.lt_iff_toInt_lt, Int32.le_iff_toInt_le]; show (1023 : Int) < d.toInt ↔ (1024 : Int) ≤ d.toInt; omega
theorem wh_vl {T : List Int32} {Λ : LbS} {here s : Nat} {hf mk w : Int32} (hh : ∀ d : Int32, hf - 1 < d ↔ hf ≤ d) : whS T Λ here s hf mk w = (match vlS T Λ here s (-hf) (hf - 1) true with
    | .inl e => .inl e
    | .inr x => .inr (w ||| (x &&& mk))) := by
  unfold whS vlS
  by_cases c4 : uC T s = 4
  · rw [if_pos c4, if_neg (by rw [c4]; decide), if_pos c4]
    cases plS T Λ s with
    | none => rfl
    | some p =>
      show (if Λ.1 = true ∧ (nI p - (nI here + 1) < -hf ∨ hf ≤ nI p - (nI here + 1)) then (Sum.inl 6 : RS) else .inr (w ||| ((nI p - (nI here + 1)) &&& mk))) = (match (if Λ.1 = true ∧ true = true ∧ (nI p - (nI here + 1) < -hf ∨ hf - 1 < nI p - (nI here + 1)) then (Sum.inl 6 : RS) else .inr (nI p - (nI here + 1))) with | .inl e => .inl e | .inr x => .inr (w ||| (x &&& mk)))
      by_cases g : Λ.1 = true ∧ (nI p - (nI here + 1) < -hf ∨ hf ≤ nI p - (nI here + 1))
      · rw [if_pos g, if_pos ⟨g.1, rfl, g.2.imp id (hh _).mpr⟩]
      · rw [if_neg g, if_neg (fun x => g ⟨x.1, x.2.2.imp id (hh _).mp⟩)]
  · rw [if_neg c4]
    unfold nuS
    by_cases c2 : uC T s = 2
    · rw [if_pos c2, if_pos c2]
      by_cases g1 : uV T s < -hf
      · rw [if_pos g1, if_pos g1]
      · rw [if_neg g1, if_neg g1]
        by_cases g2 : hf - 1 < uV T s
        · rw [if_pos g2, if_pos g2]
        · rw [if_neg g2, if_neg g2]
    · rw [if_neg c2, if_neg c2, if_neg c4]
set_option maxRecDepth 20000 in
set_option maxHeartbeats 4000000 in
/-- taken() -/
theorem T_taken {X : Nat × (Nat → Int32)} {h0 h : PH} {Q : Option Value → PH → Prop} {T : List Int32} {ψ : Nat → Nat → Int32} {sec : Bool} {sh w w0 : Int32} (hw : sec = true → w = w0) {p : Nat} (hB : Byt T) (hp : p ≤ T.length) (np : ψ 25 40 = nI p) (f : Fu h0 h) (q : RU h T ψ) (kF : ∀ e, reS T (nx T p) sh w0 = .inl e → RF h0 T ψ Q e (nx T p)) (kG : ∀ x, reS T (nx T p) sh w0 = .inr x → RG h0 T ψ Q (uE T (nx T p)) (fun y => sec = true → y = x)) : WP X mX11_taken 4 80 0 (en 3 [.ref 25, .int sh, .int w]) [] h Q := by
  refine w_aload_n dX11_taken_0 rfl rfl ?_
  refine w_v0 (d2 := 3) (L2 := 60) dX11_taken_1 vX11_297 rfl (q.1.lt (by decide)) (by decide) (Nat.le_of_ble_eq_true rfl) (by decide) (by decide) ?_
  refine T_next hB hp np f q (fun ha φa fa qa ua ta => ?_)
  refine k_v rfl ?_
  have hx := nx_p hp
  have hl := q.2.1.1
  refine w_aload_n dX11_taken_4 rfl rfl ?_
  refine w_v0 (d2 := 1) (L2 := 21) dX11_taken_5 vX11_249 rfl (qa.1.lt (by decide)) (by decide) (Nat.le_of_ble_eq_true rfl) (by decide) (by decide) ?_
  refine T_isReg hB hx.2 ta qa (fun d3 => ?_) (fun d3 ev => ?_)
  · refine k_i rfl ?_
    refine w_if_ne (tgt := 16) dX11_taken_8 (by decide) (fun c_8 => absurd c_8 (by decide)) (fun c_8 => ?_)
    refine w_aload_n dX11_taken_11 rfl rfl ?_
    refine w_v0 (d2 := 1) (L2 := 22) dX11_taken_12 vX11_309 rfl (qa.1.lt (by decide)) (by decide) (Nat.le_of_ble_eq_true rfl) (by decide) (by decide) ?_
    refine T_wrt ta.2.2.1 fa qa (fun hz fz qz => ?_)
    refine k_i rfl ?_
    refine w_iret dX11_taken_15 (fun _ e => by cases e; decide) ?_
    exact rf1 (kF 1 (by unfold reS; rw [if_neg d3])) ua.uv.ub _ fz qz
  · refine k_i rfl ?_
    refine w_if_ne (tgt := 16) dX11_taken_8 (by decide) (fun c_8 => ?_) (fun c_8 => absurd c_8 (by decide))
    refine w_aload_n dX11_taken_16 rfl rfl ?_
    refine w_iload_n dX11_taken_17 rfl rfl ?_
    refine w_aload_n dX11_taken_18 rfl rfl ?_
    refine w_aload_n dX11_taken_19 rfl rfl ?_
    refine u_get (k := 42) (by decide) qa dX11_taken_20 fX11_211 ?_
    refine w_iconst dX11_taken_23 (v := 1) (by decide) ?_
    refine w_iadd dX11_taken_24 ?_
    refine w_v1 (d2 := 0) (L2 := 0) dX11_taken_25 vX11_205 rfl (qa.1.lt (by decide)) rfl (by decide) (Nat.le_of_ble_eq_true rfl) (by decide) (by decide) ?_
    rw [ta.2.2.1, nI_1]
    refine T_sign (by omega) qa ?_
    refine k_i rfl ?_
    refine w_bipush dX11_taken_28 (v := 48) (by decide) ?_
    refine w_isub dX11_taken_30 ?_
    refine w_iload_n dX11_taken_31 rfl rfl ?_
    refine w_ishl dX11_taken_32 ?_
    refine w_ior dX11_taken_33 ?_
    refine u_put (k := 51) (by decide) fa qa dX11_taken_34 fX11_331 (fun h1 f1 q1 => ?_)
    refine w_iconst dX11_taken_37 (v := 1) (by decide) ?_
    refine w_iret dX11_taken_38 (fun _ e => by cases e; decide) ?_
    exact kG _ (by unfold reS; rw [if_pos d3]) _ _ f1 q1 (ua.uv.p (Or.inr rfl)) ((uP_k (by decide)).trans ta.1) (fun hs => by rw [uP_s, hw hs, ev])

set_option maxRecDepth 20000 in
set_option maxHeartbeats 4000000 in
/-- small() -/
theorem T_small {X : Nat × (Nat → Int32)} {h0 h : PH} {Q : Option Value → PH → Prop} {T : List Int32} {ψ : Nat → Nat → Int32} {lo hi : Int32} {p : Nat} (hB : Byt T) (hp : p ≤ T.length) (np : ψ 25 40 = nI p) (f : Fu h0 h) (q : RU h T ψ) (kF : ∀ e, snS T (nx T p) lo hi = .inl e → RF h0 T ψ Q e (nx T p)) (kG : ∀ x, snS T (nx T p) lo hi = .inr x → ∀ h' φ, Fu h0 h' → RU h' T φ → UV ψ φ → φ 25 40 = nI (uE T (nx T p)) → φ 25 44 = x → φ 25 51 = ψ 25 51 → Q (some (.int 1)) h') : WP X mX11_small 4 80 0 (en 3 [.ref 25, .int lo, .int hi]) [] h Q := by
  refine w_aload_n dX11_small_0 rfl rfl ?_
  refine w_v0 (d2 := 3) (L2 := 60) dX11_small_1 vX11_297 rfl (q.1.lt (by decide)) (by decide) (Nat.le_of_ble_eq_true rfl) (by decide) (by decide) ?_
  refine T_next hB hp np f q (fun ha φa fa qa ua ta => ?_)
  refine k_v rfl ?_
  have hx := nx_p hp
  refine w_aload_n dX11_small_4 rfl rfl ?_
  refine w_v0 (d2 := 2) (L2 := 41) dX11_small_5 vX11_246 rfl (qa.1.lt (by decide)) (by decide) (Nat.le_of_ble_eq_true rfl) (by decide) (by decide) ?_
  refine T_isNum hB hx.2 ta fa qa (fun d2 => ?_) (fun d2 hb fb qb => ?_)
  · refine k_i rfl ?_
    refine w_if_ne (tgt := 16) dX11_small_8 (by decide) (fun c_8 => absurd c_8 (by decide)) (fun c_8 => ?_)
    refine w_aload_n dX11_small_11 rfl rfl ?_
    refine w_v0 (d2 := 1) (L2 := 22) dX11_small_12 vX11_309 rfl (qa.1.lt (by decide)) (by decide) (Nat.le_of_ble_eq_true rfl) (by decide) (by decide) ?_
    refine T_wrt ta.2.2.1 fa qa (fun hz fz qz => ?_)
    refine k_i rfl ?_
    refine w_iret dX11_small_15 (fun _ e => by cases e; decide) ?_
    exact rf1 (kF 1 (by unfold snS; rw [if_neg d2])) ua.uv.ub _ fz qz
  · refine k_i rfl ?_
    refine w_if_ne (tgt := 16) dX11_small_8 (by decide) (fun c_8 => ?_) (fun c_8 => absurd c_8 (by decide))
    refine w_aload_n dX11_small_16 rfl rfl ?_
    refine u_get (k := 44) (by decide) qb dX11_small_17 fX11_232 ?_
    refine w_iload_n dX11_small_20 rfl rfl ?_
    refine w_icmp_lt (tgt := 32) dX11_small_21 (by decide) (fun c_21 => ?_) (fun c_21 => ?_)
    · rw [uP_s] at c_21
      refine w_aload_n dX11_small_32 rfl rfl ?_
      refine w_iconst dX11_small_33 (v := 2) (by decide) ?_
      refine w_aload_n dX11_small_34 rfl rfl ?_
      refine u_get (k := 42) (by decide) qb dX11_small_35 fX11_211 ?_
      refine w_v2 (d2 := 0) (L2 := 0) dX11_small_38 vX11_258 rfl (qb.1.lt (by decide)) rfl rfl (by decide) (Nat.le_of_ble_eq_true rfl) (by decide) (by decide) ?_
      rw [show uP φa 25 44 (uV T (nx T p)) 25 42 = nI (nx T p) from (uP_k (by decide)).trans ta.2.2.1]
      refine T_wrong fb qb (fun h1 f1 q1 => ?_)
      · refine k_i rfl ?_
        refine w_if_eq (tgt := 48) dX11_small_41 (by decide) (fun c_41 => ?_) (fun c_41 => absurd c_41 (by decide))
        refine w_iconst dX11_small_48 (v := 0) (by decide) ?_
        refine w_iret dX11_small_49 (fun _ e => by cases e; decide) ?_
        exact rf1 (kF 2 (by unfold snS; rw [if_pos d2, if_pos c_21])) (ua.uv.p (Or.inl (by decide))).ub _ f1 q1
    · rw [uP_s] at c_21
      refine w_aload_n dX11_small_24 rfl rfl ?_
      refine u_get (k := 44) (by decide) qb dX11_small_25 fX11_232 ?_
      refine w_iload_n dX11_small_28 rfl rfl ?_
      refine w_icmp_le (tgt := 44) dX11_small_29 (by decide) (fun c_29 => ?_) (fun c_29 => ?_)
      · rw [uP_s] at c_29
        refine w_iconst dX11_small_44 (v := 1) (by decide) ?_
        refine w_goto (tgt := 49) dX11_small_45 (by decide) ?_
        refine w_iret dX11_small_49 (fun _ e => by cases e; decide) ?_
        exact kG _ (by unfold snS; rw [if_pos d2, if_neg c_21, if_neg (Int32.not_lt.mpr c_29)]) _ _ fb qb (ua.uv.p (Or.inl (by decide))) ((uP_k (by decide)).trans ta.1) uP_s ((uP_k (by decide)).trans (ua 25 51 (by decide) (by decide)))
      · rw [uP_s] at c_29
        refine w_aload_n dX11_small_32 rfl rfl ?_
        refine w_iconst dX11_small_33 (v := 2) (by decide) ?_
        refine w_aload_n dX11_small_34 rfl rfl ?_
        refine u_get (k := 42) (by decide) qb dX11_small_35 fX11_211 ?_
        refine w_v2 (d2 := 0) (L2 := 0) dX11_small_38 vX11_258 rfl (qb.1.lt (by decide)) rfl rfl (by decide) (Nat.le_of_ble_eq_true rfl) (by decide) (by decide) ?_
        rw [show uP φa 25 44 (uV T (nx T p)) 25 42 = nI (nx T p) from (uP_k (by decide)).trans ta.2.2.1]
        refine T_wrong fb qb (fun h2 f2 q2 => ?_)
        · refine k_i rfl ?_
          refine w_if_eq (tgt := 48) dX11_small_41 (by decide) (fun c_41 => ?_) (fun c_41 => absurd c_41 (by decide))
          refine w_iconst dX11_small_48 (v := 0) (by decide) ?_
          refine w_iret dX11_small_49 (fun _ e => by cases e; decide) ?_
          exact rf1 (kF 2 (by unfold snS; rw [if_pos d2, if_neg c_21, if_pos (Int32.not_le.mp c_29)])) (ua.uv.p (Or.inl (by decide))).ub _ f2 q2

set_option maxRecDepth 20000 in
set_option maxHeartbeats 4000000 in
/-- where() -/
theorem T_mwh9 {X : Nat × (Nat → Int32)} {h0 h : PH} {Q : Option Value → PH → Prop} {T : List Int32} {ψ : Nat → Nat → Int32} {w w0 : Int32} {sec : Bool} {a : AS} (ma : MA T sec a ψ) (hb : a.2.1 = true) (hw : sec = true → w = w0) {p : Nat} (hB : Byt T) (hp : p ≤ T.length) (np : ψ 25 40 = nI p) (f : Fu h0 h) (q : RU h T ψ) (kF : ∀ e, whS T (laS sec a.2.2.2.2.2) (a.2.2.2.1 + a.2.2.2.2.1.length) (nx T p) 256 511 w0 = .inl e → RF h0 T ψ Q e (nx T p)) (kG : ∀ x, whS T (laS sec a.2.2.2.2.2) (a.2.2.2.1 + a.2.2.2.2.1.length) (nx T p) 256 511 w0 = .inr x → RG h0 T ψ Q (uE T (nx T p)) (fun y => sec = true → y = x)) : WP X mX11_where 7 156 0 (en 3 [.ref 25, .int 9, .int w]) [] h Q := by
  refine w_aload_n dX11_where_0 rfl rfl ?_
  refine w_v0 (d2 := 3) (L2 := 60) dX11_where_1 vX11_297 rfl (q.1.lt (by decide)) (by decide) (Nat.le_of_ble_eq_true rfl) (by decide) (by decide) ?_
  refine T_next hB hp np f q (fun ha φa fa qa ua ta => ?_)
  refine k_v rfl ?_
  have hx := nx_p hp
  have sh9 : (1 : Int32) <<< ((9 - 1 : Int32) &&& 31) = 256 := by decide
  have sm9 : (1 : Int32) <<< ((9 : Int32) &&& 31) - 1 = 511 := by decide
  rw [wh_vl (fun d => lt_256)] at kF kG
  refine w_aload_n dX11_where_4 rfl rfl ?_
  refine w_iconst dX11_where_5 (v := 1) (by decide) ?_
  refine w_iload_n dX11_where_6 rfl rfl ?_
  refine w_iconst dX11_where_7 (v := 1) (by decide) ?_
  refine w_isub dX11_where_8 ?_
  refine w_ishl dX11_where_9 ?_
  refine w_ineg dX11_where_10 ?_
  refine w_iconst dX11_where_11 (v := 1) (by decide) ?_
  refine w_iload_n dX11_where_12 rfl rfl ?_
  refine w_iconst dX11_where_13 (v := 1) (by decide) ?_
  refine w_isub dX11_where_14 ?_
  refine w_ishl dX11_where_15 ?_
  refine w_iconst dX11_where_16 (v := 1) (by decide) ?_
  refine w_isub dX11_where_17 ?_
  refine w_iconst dX11_where_18 (v := 1) (by decide) ?_
  refine w_v3 (d2 := 6) (L2 := 132) dX11_where_19 vX11_327 rfl (qa.1.lt (by decide)) rfl rfl rfl (by decide) (Nat.le_of_ble_eq_true rfl) (by decide) (by decide) ?_
  rw [sh9]
  refine T_val1 hB hx.2 ta (ma.uv ua.uv) hb fa qa (fun e e9 hz φz fz qz y1 y2 y3 => ?_) (fun x e9 hz φz fz qz y1 y2 y3 => ?_)
  · refine k_i rfl ?_
    refine w_if_ne (tgt := 27) dX11_where_22 (by decide) (fun c_22 => absurd c_22 (by decide)) (fun c_22 => ?_)
    refine w_iconst dX11_where_25 (v := 0) (by decide) ?_
    refine w_iret dX11_where_26 (fun _ e => by cases e; decide) ?_
    exact kF e (by rw [e9]) _ _ fz qz (ua.uv.ub.tr y1) y2 y3
  · refine k_i rfl ?_
    refine w_if_ne (tgt := 27) dX11_where_22 (by decide) (fun c_22 => ?_) (fun c_22 => absurd c_22 (by decide))
    refine w_aload_n dX11_where_27 rfl rfl ?_
    refine w_iload_n dX11_where_28 rfl rfl ?_
    refine w_aload_n dX11_where_29 rfl rfl ?_
    refine u_get (k := 51) (by decide) qz dX11_where_30 fX11_331 ?_
    refine w_iconst dX11_where_33 (v := 1) (by decide) ?_
    refine w_iload_n dX11_where_34 rfl rfl ?_
    refine w_ishl dX11_where_35 ?_
    refine w_iconst dX11_where_36 (v := 1) (by decide) ?_
    refine w_isub dX11_where_37 ?_
    refine w_iand dX11_where_38 ?_
    refine w_ior dX11_where_39 ?_
    refine u_put (k := 51) (by decide) fz qz dX11_where_40 fX11_331 (fun h1 f1 q1 => ?_)
    refine w_iconst dX11_where_43 (v := 1) (by decide) ?_
    refine w_iret dX11_where_44 (fun _ e => by cases e; decide) ?_
    rw [sm9] at q1
    exact kG _ (by rw [e9]) _ _ f1 q1 ((ua.uv.tr y1).p (Or.inr rfl)) ((uP_k (by decide)).trans y2) (fun hs => by rw [uP_s, hw hs, y3 hs])

set_option maxRecDepth 20000 in
set_option maxHeartbeats 4000000 in
/-- where() -/
theorem T_mwh11 {X : Nat × (Nat → Int32)} {h0 h : PH} {Q : Option Value → PH → Prop} {T : List Int32} {ψ : Nat → Nat → Int32} {w w0 : Int32} {sec : Bool} {a : AS} (ma : MA T sec a ψ) (hb : a.2.1 = true) (hw : sec = true → w = w0) {p : Nat} (hB : Byt T) (hp : p ≤ T.length) (np : ψ 25 40 = nI p) (f : Fu h0 h) (q : RU h T ψ) (kF : ∀ e, whS T (laS sec a.2.2.2.2.2) (a.2.2.2.1 + a.2.2.2.2.1.length) (nx T p) 1024 2047 w0 = .inl e → RF h0 T ψ Q e (nx T p)) (kG : ∀ x, whS T (laS sec a.2.2.2.2.2) (a.2.2.2.1 + a.2.2.2.2.1.length) (nx T p) 1024 2047 w0 = .inr x → RG h0 T ψ Q (uE T (nx T p)) (fun y => sec = true → y = x)) : WP X mX11_where 7 156 0 (en 3 [.ref 25, .int 11, .int w]) [] h Q := by
  refine w_aload_n dX11_where_0 rfl rfl ?_
  refine w_v0 (d2 := 3) (L2 := 60) dX11_where_1 vX11_297 rfl (q.1.lt (by decide)) (by decide) (Nat.le_of_ble_eq_true rfl) (by decide) (by decide) ?_
  refine T_next hB hp np f q (fun ha φa fa qa ua ta => ?_)
  refine k_v rfl ?_
  have hx := nx_p hp
  have sh9 : (1 : Int32) <<< ((11 - 1 : Int32) &&& 31) = 1024 := by decide
  have sm9 : (1 : Int32) <<< ((11 : Int32) &&& 31) - 1 = 2047 := by decide
  rw [wh_vl (fun d => lt_1024)] at kF kG
  refine w_aload_n dX11_where_4 rfl rfl ?_
  refine w_iconst dX11_where_5 (v := 1) (by decide) ?_
  refine w_iload_n dX11_where_6 rfl rfl ?_
  refine w_iconst dX11_where_7 (v := 1) (by decide) ?_
  refine w_isub dX11_where_8 ?_
  refine w_ishl dX11_where_9 ?_
  refine w_ineg dX11_where_10 ?_
  refine w_iconst dX11_where_11 (v := 1) (by decide) ?_
  refine w_iload_n dX11_where_12 rfl rfl ?_
  refine w_iconst dX11_where_13 (v := 1) (by decide) ?_
  refine w_isub dX11_where_14 ?_
  refine w_ishl dX11_where_15 ?_
  refine w_iconst dX11_where_16 (v := 1) (by decide) ?_
  refine w_isub dX11_where_17 ?_
  refine w_iconst dX11_where_18 (v := 1) (by decide) ?_
  refine w_v3 (d2 := 6) (L2 := 132) dX11_where_19 vX11_327 rfl (qa.1.lt (by decide)) rfl rfl rfl (by decide) (Nat.le_of_ble_eq_true rfl) (by decide) (by decide) ?_
  rw [sh9]
  refine T_val1 hB hx.2 ta (ma.uv ua.uv) hb fa qa (fun e e9 hz φz fz qz y1 y2 y3 => ?_) (fun x e9 hz φz fz qz y1 y2 y3 => ?_)
  · refine k_i rfl ?_
    refine w_if_ne (tgt := 27) dX11_where_22 (by decide) (fun c_22 => absurd c_22 (by decide)) (fun c_22 => ?_)
    refine w_iconst dX11_where_25 (v := 0) (by decide) ?_
    refine w_iret dX11_where_26 (fun _ e => by cases e; decide) ?_
    exact kF e (by rw [e9]) _ _ fz qz (ua.uv.ub.tr y1) y2 y3
  · refine k_i rfl ?_
    refine w_if_ne (tgt := 27) dX11_where_22 (by decide) (fun c_22 => ?_) (fun c_22 => absurd c_22 (by decide))
    refine w_aload_n dX11_where_27 rfl rfl ?_
    refine w_iload_n dX11_where_28 rfl rfl ?_
    refine w_aload_n dX11_where_29 rfl rfl ?_
    refine u_get (k := 51) (by decide) qz dX11_where_30 fX11_331 ?_
    refine w_iconst dX11_where_33 (v := 1) (by decide) ?_
    refine w_iload_n dX11_where_34 rfl rfl ?_
    refine w_ishl dX11_where_35 ?_
    refine w_iconst dX11_where_36 (v := 1) (by decide) ?_
    refine w_isub dX11_where_37 ?_
    refine w_iand dX11_where_38 ?_
    refine w_ior dX11_where_39 ?_
    refine u_put (k := 51) (by decide) fz qz dX11_where_40 fX11_331 (fun h1 f1 q1 => ?_)
    refine w_iconst dX11_where_43 (v := 1) (by decide) ?_
    refine w_iret dX11_where_44 (fun _ e => by cases e; decide) ?_
    rw [sm9] at q1
    exact kG _ (by rw [e9]) _ _ f1 q1 ((ua.uv.tr y1).p (Or.inr rfl)) ((uP_k (by decide)).trans y2) (fun hs => by rw [uP_s, hw hs, y3 hs])

theorem sh_l0 (x : Int32) : x <<< ((0 : Int32) &&& 31) = x := Int32.shiftLeft_zero
theorem or_32 (x y : Int32) : x ||| (32 ||| y) = (x ||| y) ||| 32 := by rw [Int32.or_comm 32 y, Int32.or_assoc]
set_option maxRecDepth 20000 in
set_option maxHeartbeats 4000000 in
/-- three() -/
theorem T_three {X : Nat × (Nat → Int32)} {h0 h : PH} {Q : Option Value → PH → Prop} {T : List Int32} {ψ : Nat → Nat → Int32} {w w0 : Int32} {sec : Bool} {a : AS} (ma : MA T sec a ψ) (hb : a.2.1 = true) (hw : sec = true → w = w0) {p : Nat} (hB : Byt T) (hp : p ≤ T.length) (np : ψ 25 40 = nI p) (f : Fu h0 h) (q : RU h T ψ) (kF : ∀ e, shS T (laS sec a.2.2.2.2.2) (a.2.2.2.1 + a.2.2.2.2.1.length) [68, 65, 83] p w0 = .inl e → RF h0 T ψ Q e.1 e.2) (kG : ∀ r, shS T (laS sec a.2.2.2.2.2) (a.2.2.2.1 + a.2.2.2.2.1.length) [68, 65, 83] p w0 = .inr r → RG h0 T ψ Q r.1 (fun y => sec = true → y = r.2)) : WP X mX11_three 5 102 0 (en 2 [.ref 25, .int w]) [] h Q := by
  have hx := nx_p hp
  have h1 := uE_le hx.2
  have hx2 := nx_p h1
  have h2 := uE_le hx2.2
  have hx3 := nx_p h2
  refine w_aload_n dX11_three_0 rfl rfl ?_
  refine w_bipush dX11_three_1 (v := 9) (by decide) ?_
  refine w_iload_n dX11_three_3 rfl rfl ?_
  refine w_v2 (d2 := 4) (L2 := 80) dX11_three_4 vX11_348 rfl (q.1.lt (by decide)) rfl rfl (by decide) (Nat.le_of_ble_eq_true rfl) (by decide) (by decide) ?_
  refine T_taken (sec := sec) (w0 := w0) hw hB hp np f q (fun e e1 ha φa fa qa y1a y2a y3a => ?_) (fun xa e1 ha φa fa qa y1a y2a y3a => ?_)
  · refine k_i rfl ?_
    refine w_if_eq (tgt := 23) dX11_three_7 (by decide) (fun c_7 => ?_) (fun c_7 => absurd c_7 (by decide))
    refine w_iconst dX11_three_23 (v := 0) (by decide) ?_
    refine w_iret dX11_three_24 (fun _ e => by cases e; decide) ?_
    exact kF (e, nx T p) (by rw [shS, show opS T _ _ 68 (nx T p) w0 = .inl e from e1]) _ _ fa qa y1a y2a y3a
  · refine k_i rfl ?_
    refine w_if_eq (tgt := 23) dX11_three_7 (by decide) (fun c_7 => absurd c_7 (by decide)) (fun c_7 => ?_)
    refine w_aload_n dX11_three_10 rfl rfl ?_
    refine w_bipush dX11_three_11 (v := 6) (by decide) ?_
    refine w_aload_n dX11_three_13 rfl rfl ?_
    refine u_get (k := 51) (by decide) qa dX11_three_14 fX11_331 ?_
    refine w_v2 (d2 := 4) (L2 := 80) dX11_three_17 vX11_348 rfl (qa.1.lt (by decide)) rfl rfl (by decide) (Nat.le_of_ble_eq_true rfl) (by decide) (by decide) ?_
    refine T_taken (sec := sec) (w0 := xa) y3a hB h1 y2a fa qa (fun e e2 hb φb fb qb y1b y2b y3b => ?_) (fun xb e2 hb φb fb qb y1b y2b y3b => ?_)
    · refine k_i rfl ?_
      refine w_if_ne (tgt := 25) dX11_three_20 (by decide) (fun c_20 => absurd c_20 (by decide)) (fun c_20 => ?_)
      refine w_iconst dX11_three_23 (v := 0) (by decide) ?_
      refine w_iret dX11_three_24 (fun _ e => by cases e; decide) ?_
      exact kF (e, (nx T (uE T (nx T p)))) (by rw [shS, show opS T _ _ 68 (nx T p) w0 = .inr xa from e1]; show shS T _ _ (65 :: [83]) _ xa = _; rw [shS, show opS T _ _ 65 (nx T (uE T (nx T p))) xa = .inl e from e2]) _ _ fb qb (y1a.ub.tr y1b) y2b y3b
    · refine k_i rfl ?_
      refine w_if_ne (tgt := 25) dX11_three_20 (by decide) (fun c_20 => ?_) (fun c_20 => absurd c_20 (by decide))
      have sh3 : shS T (laS sec a.2.2.2.2.2) (a.2.2.2.1 + a.2.2.2.2.1.length) [68, 65, 83] p w0 = (match seS T (nx T (uE T (nx T (uE T (nx T p))))) xb with | .inl e => .inl (e, (nx T (uE T (nx T (uE T (nx T p)))))) | .inr v => .inr (uE T (nx T (uE T (nx T (uE T (nx T p))))), v)) := by rw [shS, show opS T _ _ 68 (nx T p) w0 = .inr xa from e1]; show shS T _ _ (65 :: [83]) _ xa = _; rw [shS, show opS T _ _ 65 (nx T (uE T (nx T p))) xa = .inr xb from e2]; rfl
      rw [sh3] at kF kG
      have uv2 := y1a.tr y1b
      have hl := q.2.1.1
      refine w_aload_n dX11_three_25 rfl rfl ?_
      refine w_v0 (d2 := 3) (L2 := 60) dX11_three_26 vX11_297 rfl (qb.1.lt (by decide)) (by decide) (Nat.le_of_ble_eq_true rfl) (by decide) (by decide) ?_
      refine T_next hB h2 y2b fb qb (fun hc φc fc qc uc tc => ?_)
      refine k_v rfl ?_
      refine w_aload_n dX11_three_29 rfl rfl ?_
      refine w_v0 (d2 := 1) (L2 := 21) dX11_three_30 vX11_249 rfl (qc.1.lt (by decide)) (by decide) (Nat.le_of_ble_eq_true rfl) (by decide) (by decide) ?_
      refine T_isReg hB hx3.2 tc qc (fun d3 => ?_) (fun d3 ev => ?_)
      · refine k_i rfl ?_
        refine w_if_eq (tgt := 60) dX11_three_33 (by decide) (fun c_33 => ?_) (fun c_33 => absurd c_33 (by decide))
        refine w_aload_n dX11_three_60 rfl rfl ?_
        refine w_v0 (d2 := 2) (L2 := 41) dX11_three_61 vX11_246 rfl (qc.1.lt (by decide)) (by decide) (Nat.le_of_ble_eq_true rfl) (by decide) (by decide) ?_
        refine T_isNum hB hx3.2 tc fc qc (fun d2 => ?_) (fun d2 hd fd qd => ?_)
        · refine k_i rfl ?_
          refine w_if_ne (tgt := 72) dX11_three_64 (by decide) (fun c_64 => absurd c_64 (by decide)) (fun c_64 => ?_)
          refine w_aload_n dX11_three_67 rfl rfl ?_
          refine w_v0 (d2 := 1) (L2 := 22) dX11_three_68 vX11_309 rfl (qc.1.lt (by decide)) (by decide) (Nat.le_of_ble_eq_true rfl) (by decide) (by decide) ?_
          refine T_wrt tc.2.2.1 fc qc (fun hz fz qz => ?_)
          refine k_i rfl ?_
          refine w_iret dX11_three_71 (fun _ e => by cases e; decide) ?_
          exact rf1 (kF (1, (nx T (uE T (nx T (uE T (nx T p)))))) (by unfold seS nuS; rw [if_neg d3, if_neg d2])) (uv2.tr uc.uv).ub _ fz qz
        · refine k_i rfl ?_
          refine w_if_ne (tgt := 72) dX11_three_64 (by decide) (fun c_64 => ?_) (fun c_64 => absurd c_64 (by decide))
          refine w_aload_n dX11_three_72 rfl rfl ?_
          refine w_dup dX11_three_73 rfl ?_
          refine u_get (k := 51) (by decide) qd dX11_three_74 fX11_331 ?_
          refine w_bipush dX11_three_77 (v := 32) (by decide) ?_
          refine w_aload_n dX11_three_79 rfl rfl ?_
          refine u_get (k := 44) (by decide) qd dX11_three_80 fX11_232 ?_
          refine w_bipush dX11_three_83 (v := 31) (by decide) ?_
          refine w_iand dX11_three_85 ?_
          refine w_ior dX11_three_86 ?_
          refine w_ior dX11_three_87 ?_
          refine u_put (k := 51) (by decide) fd qd dX11_three_88 fX11_331 (fun h1 f1 q1 => ?_)
          have n44 : ∀ x : Int32, uP (uP φc 25 44 (uV T (nx T (uE T (nx T (uE T (nx T p))))))) 25 51 x 25 44 = uV T (nx T (uE T (nx T (uE T (nx T p))))) := fun x => (uP_k (by decide)).trans uP_s
          have n42 : ∀ x : Int32, uP (uP φc 25 44 (uV T (nx T (uE T (nx T (uE T (nx T p))))))) 25 51 x 25 42 = nI (nx T (uE T (nx T (uE T (nx T p))))) := fun x => (uP_k (by decide)).trans ((uP_k (by decide)).trans tc.2.2.1)
          have uv9 : UV ψ (uP φc 25 44 (uV T (nx T (uE T (nx T (uE T (nx T p))))))) := (uv2.tr uc.uv).p (Or.inl (by decide))
          refine w_aload_n dX11_three_91 rfl rfl ?_
          refine u_get (k := 44) (by decide) q1 dX11_three_92 fX11_232 ?_
          refine w_bipush dX11_three_95 (v := (-16)) (by decide) ?_
          refine w_icmp_lt (tgt := 109) dX11_three_97 (by decide) (fun c_97 => ?_) (fun c_97 => ?_)
          · rw [n44] at c_97
            refine w_aload_n dX11_three_109 rfl rfl ?_
            refine w_iconst dX11_three_110 (v := 2) (by decide) ?_
            refine w_aload_n dX11_three_111 rfl rfl ?_
            refine u_get (k := 42) (by decide) q1 dX11_three_112 fX11_211 ?_
            refine w_v2 (d2 := 0) (L2 := 0) dX11_three_115 vX11_258 rfl (q1.1.lt (by decide)) rfl rfl (by decide) (Nat.le_of_ble_eq_true rfl) (by decide) (by decide) ?_
            rw [n42]
            refine T_wrong f1 q1 (fun h2 f2 q2 => ?_)
            · refine k_i rfl ?_
              refine w_if_eq (tgt := 125) dX11_three_118 (by decide) (fun c_118 => ?_) (fun c_118 => absurd c_118 (by decide))
              refine w_iconst dX11_three_125 (v := 0) (by decide) ?_
              refine w_iret dX11_three_126 (fun _ e => by cases e; decide) ?_
              exact rf1 (kF (2, (nx T (uE T (nx T (uE T (nx T p)))))) (by unfold seS nuS; rw [if_neg d3, if_pos d2, if_pos c_97])) (uv9.p (Or.inr rfl)).ub _ f2 q2
          · rw [n44] at c_97
            refine w_aload_n dX11_three_100 rfl rfl ?_
            refine u_get (k := 44) (by decide) q1 dX11_three_101 fX11_232 ?_
            refine w_bipush dX11_three_104 (v := 15) (by decide) ?_
            refine w_icmp_le (tgt := 121) dX11_three_106 (by decide) (fun c_106 => ?_) (fun c_106 => ?_)
            · rw [n44] at c_106
              refine w_iconst dX11_three_121 (v := 1) (by decide) ?_
              refine w_goto (tgt := 126) dX11_three_122 (by decide) ?_
              refine w_iret dX11_three_126 (fun _ e => by cases e; decide) ?_
              exact kG _ (by unfold seS nuS; rw [if_neg d3, if_pos d2, if_neg c_97, if_neg (Int32.not_lt.mpr c_106)]) _ _ f1 q1 (uv9.p (Or.inr rfl)) ((uP_k (by decide)).trans ((uP_k (by decide)).trans tc.1)) (fun hs => by rw [uP_s, uP_k (by decide), uP_s, uc 25 51 (by decide) (by decide), y3b hs, or_32])
            · rw [n44] at c_106
              refine w_aload_n dX11_three_109 rfl rfl ?_
              refine w_iconst dX11_three_110 (v := 2) (by decide) ?_
              refine w_aload_n dX11_three_111 rfl rfl ?_
              refine u_get (k := 42) (by decide) q1 dX11_three_112 fX11_211 ?_
              refine w_v2 (d2 := 0) (L2 := 0) dX11_three_115 vX11_258 rfl (q1.1.lt (by decide)) rfl rfl (by decide) (Nat.le_of_ble_eq_true rfl) (by decide) (by decide) ?_
              rw [n42]
              refine T_wrong f1 q1 (fun h3 f3 q3 => ?_)
              · refine k_i rfl ?_
                refine w_if_eq (tgt := 125) dX11_three_118 (by decide) (fun c_118 => ?_) (fun c_118 => absurd c_118 (by decide))
                refine w_iconst dX11_three_125 (v := 0) (by decide) ?_
                refine w_iret dX11_three_126 (fun _ e => by cases e; decide) ?_
                exact rf1 (kF (2, (nx T (uE T (nx T (uE T (nx T p)))))) (by unfold seS nuS; rw [if_neg d3, if_pos d2, if_neg c_97, if_pos (Int32.not_le.mp c_106)])) (uv9.p (Or.inr rfl)).ub _ f3 q3
      · refine k_i rfl ?_
        refine w_if_eq (tgt := 60) dX11_three_33 (by decide) (fun c_33 => absurd c_33 (by decide)) (fun c_33 => ?_)
        refine w_aload_n dX11_three_36 rfl rfl ?_
        refine w_dup dX11_three_37 rfl ?_
        refine u_get (k := 51) (by decide) qc dX11_three_38 fX11_331 ?_
        refine w_aload_n dX11_three_41 rfl rfl ?_
        refine w_aload_n dX11_three_42 rfl rfl ?_
        refine u_get (k := 42) (by decide) qc dX11_three_43 fX11_211 ?_
        refine w_iconst dX11_three_46 (v := 1) (by decide) ?_
        refine w_iadd dX11_three_47 ?_
        refine w_v1 (d2 := 0) (L2 := 0) dX11_three_48 vX11_205 rfl (qc.1.lt (by decide)) rfl (by decide) (Nat.le_of_ble_eq_true rfl) (by decide) (by decide) ?_
        rw [tc.2.2.1, nI_1]
        refine T_sign (by omega) qc ?_
        refine k_i rfl ?_
        refine w_bipush dX11_three_51 (v := 48) (by decide) ?_
        refine w_isub dX11_three_53 ?_
        refine w_ior dX11_three_54 ?_
        refine u_put (k := 51) (by decide) fc qc dX11_three_55 fX11_331 (fun h4 f4 q4 => ?_)
        refine w_iconst dX11_three_58 (v := 1) (by decide) ?_
        refine w_iret dX11_three_59 (fun _ e => by cases e; decide) ?_
        exact kG _ (by unfold seS reS; rw [if_pos d3, if_pos d3]) _ _ f4 q4 ((uv2.tr uc.uv).p (Or.inr rfl)) ((uP_k (by decide)).trans tc.1) (fun hs => by rw [uP_s, uc 25 51 (by decide) (by decide), y3b hs, sh_l0, ev])

set_option maxRecDepth 20000 in
set_option maxHeartbeats 4000000 in
/-- based() -/
theorem T_based {X : Nat × (Nat → Int32)} {h0 h : PH} {Q : Option Value → PH → Prop} {T : List Int32} {ψ : Nat → Nat → Int32} {w w0 : Int32} {sec : Bool} {a : AS} (ma : MA T sec a ψ) (hb : a.2.1 = true) (hw : sec = true → w = w0) {p : Nat} (hB : Byt T) (hp : p ≤ T.length) (np : ψ 25 40 = nI p) (f : Fu h0 h) (q : RU h T ψ) (kF : ∀ e, shS T (laS sec a.2.2.2.2.2) (a.2.2.2.1 + a.2.2.2.2.1.length) [68, 65, 79] p w0 = .inl e → RF h0 T ψ Q e.1 e.2) (kG : ∀ r, shS T (laS sec a.2.2.2.2.2) (a.2.2.2.1 + a.2.2.2.2.1.length) [68, 65, 79] p w0 = .inr r → RG h0 T ψ Q r.1 (fun y => sec = true → y = r.2)) : WP X mX11_based 5 102 0 (en 2 [.ref 25, .int w]) [] h Q := by
  have hx := nx_p hp
  have h1 := uE_le hx.2
  have hx2 := nx_p h1
  have h2 := uE_le hx2.2
  have hx3 := nx_p h2
  refine w_aload_n dX11_based_0 rfl rfl ?_
  refine w_bipush dX11_based_1 (v := 9) (by decide) ?_
  refine w_iload_n dX11_based_3 rfl rfl ?_
  refine w_v2 (d2 := 4) (L2 := 80) dX11_based_4 vX11_348 rfl (q.1.lt (by decide)) rfl rfl (by decide) (Nat.le_of_ble_eq_true rfl) (by decide) (by decide) ?_
  refine T_taken (sec := sec) (w0 := w0) hw hB hp np f q (fun e e1 ha φa fa qa y1a y2a y3a => ?_) (fun xa e1 ha φa fa qa y1a y2a y3a => ?_)
  · refine k_i rfl ?_
    refine w_if_eq (tgt := 34) dX11_based_7 (by decide) (fun c_7 => ?_) (fun c_7 => absurd c_7 (by decide))
    refine w_iconst dX11_based_34 (v := 0) (by decide) ?_
    refine w_iret dX11_based_35 (fun _ e => by cases e; decide) ?_
    exact kF (e, nx T p) (by rw [shS, show opS T _ _ 68 (nx T p) w0 = .inl e from e1]) _ _ fa qa y1a y2a y3a
  · refine k_i rfl ?_
    refine w_if_eq (tgt := 34) dX11_based_7 (by decide) (fun c_7 => absurd c_7 (by decide)) (fun c_7 => ?_)
    refine w_aload_n dX11_based_10 rfl rfl ?_
    refine w_bipush dX11_based_11 (v := 6) (by decide) ?_
    refine w_aload_n dX11_based_13 rfl rfl ?_
    refine u_get (k := 51) (by decide) qa dX11_based_14 fX11_331 ?_
    refine w_v2 (d2 := 4) (L2 := 80) dX11_based_17 vX11_348 rfl (qa.1.lt (by decide)) rfl rfl (by decide) (Nat.le_of_ble_eq_true rfl) (by decide) (by decide) ?_
    refine T_taken (sec := sec) (w0 := xa) y3a hB h1 y2a fa qa (fun e e2 hb φb fb qb y1b y2b y3b => ?_) (fun xb e2 hb φb fb qb y1b y2b y3b => ?_)
    · refine k_i rfl ?_
      refine w_if_eq (tgt := 34) dX11_based_20 (by decide) (fun c_20 => ?_) (fun c_20 => absurd c_20 (by decide))
      refine w_iconst dX11_based_34 (v := 0) (by decide) ?_
      refine w_iret dX11_based_35 (fun _ e => by cases e; decide) ?_
      exact kF (e, (nx T (uE T (nx T p)))) (by rw [shS, show opS T _ _ 68 (nx T p) w0 = .inr xa from e1]; show shS T _ _ (65 :: [79]) _ xa = _; rw [shS, show opS T _ _ 65 (nx T (uE T (nx T p))) xa = .inl e from e2]) _ _ fb qb (y1a.ub.tr y1b) y2b y3b
    · refine k_i rfl ?_
      refine w_if_eq (tgt := 34) dX11_based_20 (by decide) (fun c_20 => absurd c_20 (by decide)) (fun c_20 => ?_)
      have sh3 : shS T (laS sec a.2.2.2.2.2) (a.2.2.2.1 + a.2.2.2.2.1.length) [68, 65, 79] p w0 = (match snS T (nx T (uE T (nx T (uE T (nx T p))))) (-32) 31 with | .inl e => .inl (e, (nx T (uE T (nx T (uE T (nx T p)))))) | .inr v => .inr (uE T (nx T (uE T (nx T (uE T (nx T p))))), xb ||| (v &&& 63))) := by
        rw [shS, show opS T _ _ 68 (nx T p) w0 = .inr xa from e1]
        show shS T _ _ (65 :: [79]) _ xa = _
        rw [shS, show opS T _ _ 65 (nx T (uE T (nx T p))) xa = .inr xb from e2]
        show shS T _ _ (79 :: []) _ xb = _
        rw [shS, show opS T _ _ 79 (nx T (uE T (nx T (uE T (nx T p))))) xb = nuS T (nx T (uE T (nx T (uE T (nx T p))))) (-32) 31 63 xb from rfl, nu_sn]
        cases snS T (nx T (uE T (nx T (uE T (nx T p))))) (-32) 31 <;> rfl
      rw [sh3] at kF kG
      refine w_aload_n dX11_based_23 rfl rfl ?_
      refine w_bipush dX11_based_24 (v := (-32)) (by decide) ?_
      refine w_bipush dX11_based_26 (v := 31) (by decide) ?_
      refine w_v2 (d2 := 4) (L2 := 80) dX11_based_28 vX11_358 rfl (qb.1.lt (by decide)) rfl rfl (by decide) (Nat.le_of_ble_eq_true rfl) (by decide) (by decide) ?_
      refine T_small hB h2 y2b fb qb (fun e e9 hc φc fc qc z1 z2 z3 => ?_) (fun x e9 hc φc fc qc z1 z2 z3 z4 => ?_)
      · refine k_i rfl ?_
        refine w_if_ne (tgt := 36) dX11_based_31 (by decide) (fun c_31 => absurd c_31 (by decide)) (fun c_31 => ?_)
        refine w_iconst dX11_based_34 (v := 0) (by decide) ?_
        refine w_iret dX11_based_35 (fun _ e => by cases e; decide) ?_
        exact kF (e, (nx T (uE T (nx T (uE T (nx T p)))))) (by rw [e9]) _ _ fc qc ((y1a.tr y1b).ub.tr z1) z2 z3
      · refine k_i rfl ?_
        refine w_if_ne (tgt := 36) dX11_based_31 (by decide) (fun c_31 => ?_) (fun c_31 => absurd c_31 (by decide))
        refine w_aload_n dX11_based_36 rfl rfl ?_
        refine w_dup dX11_based_37 rfl ?_
        refine u_get (k := 51) (by decide) qc dX11_based_38 fX11_331 ?_
        refine w_aload_n dX11_based_41 rfl rfl ?_
        refine u_get (k := 44) (by decide) qc dX11_based_42 fX11_232 ?_
        refine w_bipush dX11_based_45 (v := 63) (by decide) ?_
        refine w_iand dX11_based_47 ?_
        refine w_ior dX11_based_48 ?_
        refine u_put (k := 51) (by decide) fc qc dX11_based_49 fX11_331 (fun h1 f1 q1 => ?_)
        refine w_iconst dX11_based_52 (v := 1) (by decide) ?_
        refine w_iret dX11_based_53 (fun _ e => by cases e; decide) ?_
        exact kG _ (by rw [e9]) _ _ f1 q1 (((y1a.tr y1b).tr z1).p (Or.inr rfl)) ((uP_k (by decide)).trans z2) (fun hs => by rw [uP_s, z3, z4, y3b hs])

