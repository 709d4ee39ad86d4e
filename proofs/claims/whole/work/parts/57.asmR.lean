/-! THE REFERENCE's ASSEMBLER: operands -/
def RP (h0 : PH) (T : List Int32) (ψ : Nat → Nat → Int32) (Q : Option Value → PH → Prop) (sec : Bool) (b : AS) : Prop := ∀ h' φ, Fu h0 h' → RU h' T φ → UB ψ φ → MA T sec b φ → φ 25 40 = nI b.1 → Q (some (.int 1)) h'
def mlP (ψ : Nat → Nat → Int32) (n : Nat) (x y z : Int32) : Nat → Nat → Int32 := uP (uP (uP (uP ψ 34 n x) 35 n y) 36 n z) 25 36 (nI (n + 1))
theorem MA.lab {T : List Int32} {sec : Bool} {a : AS} {s : Nat} {ψ : Nat → Nat → Int32} (h : MA T sec a ψ) (hs : uC T s = 4) (hn : a.2.2.2.2.2.length < 200) : MA T sec (a.1, a.2.1, a.2.2.1, a.2.2.2.1, a.2.2.2.2.1, a.2.2.2.2.2 ++ [(s, a.2.2.2.1 + a.2.2.2.2.1.length)]) (mlP ψ a.2.2.2.2.2.length (nI s) (nI (wd1 T s - s)) (nI (a.2.2.2.1 + a.2.2.2.2.1.length))) := by
  obtain ⟨a1, a2, a3, a4, a5, a6, a7, a8, a9⟩ := h
  have c25 : ∀ k, k ≠ 36 → mlP ψ a.2.2.2.2.2.length (nI s) (nI (wd1 T s - s)) (nI (a.2.2.2.1 + a.2.2.2.2.1.length)) 25 k = ψ 25 k := fun k hk => (uP_k hk).trans ((uP_c (by decide)).trans ((uP_c (by decide)).trans (uP_c (by decide))))
  have l1 : (a.2.2.2.2.2 ++ [(s, a.2.2.2.1 + a.2.2.2.2.1.length)]).length = a.2.2.2.2.2.length + 1 := by rw [List.length_append]; rfl
  refine ⟨(c25 47 (by decide)).trans a1, ⟨(c25 49 (by decide)).trans a2.1, (c25 50 (by decide)).trans a2.2⟩, ⟨(c25 31 (by decide)).trans a3.1, a3.2⟩, fun hb => ⟨(c25 48 (by decide)).trans (a4 hb).1, (c25 32 (by decide)).trans (a4 hb).2⟩, a5, fun hs i v hv => (uP_c (by decide)).trans ((uP_c (by decide)).trans ((uP_c (by decide)).trans ((uP_c (by decide)).trans (a6 hs i v hv)))), ⟨?_, ?_, fun i hi => ?_⟩, ⟨(c25 28 (by decide)).trans a8.1, (c25 29 (by decide)).trans a8.2⟩, a9⟩
  · show mlP _ _ _ _ _ 25 36 = nI (a.2.2.2.2.2 ++ [(s, a.2.2.2.1 + a.2.2.2.2.1.length)]).length
    rw [l1]; exact uP_s
  · show (a.2.2.2.2.2 ++ [(s, a.2.2.2.1 + a.2.2.2.2.1.length)]).length ≤ 200
    omega
  · change i < (a.2.2.2.2.2 ++ [(s, a.2.2.2.1 + a.2.2.2.2.1.length)]).length at hi
    show mlP _ _ _ _ _ 34 i = nI ((a.2.2.2.2.2 ++ [(s, a.2.2.2.1 + a.2.2.2.2.1.length)]).getD i (0, 0)).1 ∧ mlP _ _ _ _ _ 35 i = nI (wd1 T ((a.2.2.2.2.2 ++ [(s, a.2.2.2.1 + a.2.2.2.2.1.length)]).getD i (0, 0)).1 - ((a.2.2.2.2.2 ++ [(s, a.2.2.2.1 + a.2.2.2.2.1.length)]).getD i (0, 0)).1) ∧ mlP _ _ _ _ _ 36 i = nI ((a.2.2.2.2.2 ++ [(s, a.2.2.2.1 + a.2.2.2.2.1.length)]).getD i (0, 0)).2 ∧ uC T ((a.2.2.2.2.2 ++ [(s, a.2.2.2.1 + a.2.2.2.2.1.length)]).getD i (0, 0)).1 = 4
    have p34 : ∀ (n : Nat) (x y z : Int32), mlP ψ n x y z 34 i = uP ψ 34 n x 34 i := fun n x y z => (uP_c (by decide)).trans ((uP_c (by decide)).trans (uP_c (by decide)))
    have p35 : ∀ (n : Nat) (x y z : Int32), mlP ψ n x y z 35 i = uP (uP ψ 34 n x) 35 n y 35 i := fun n x y z => (uP_c (by decide)).trans (uP_c (by decide))
    have p36 : ∀ (n : Nat) (x y z : Int32), mlP ψ n x y z 36 i = uP (uP (uP ψ 34 n x) 35 n y) 36 n z 36 i := fun n x y z => uP_c (by decide)
    rw [p34, p35, p36]
    by_cases c : i = a.2.2.2.2.2.length
    · subst c; rw [gd_n]; exact ⟨uP_s, uP_s, uP_s, hs⟩
    · have hi2 : i < a.2.2.2.2.2.length := by omega
      rw [gd_l hi2]
      have b := a7.2.2 i hi2
      exact ⟨(uP_k c).trans b.1, (uP_k c).trans ((uP_c (by decide)).trans b.2.1), (uP_k c).trans ((uP_c (by decide)).trans ((uP_c (by decide)).trans b.2.2.1)), b.2.2.2⟩
set_option maxRecDepth 20000 in
set_option maxHeartbeats 4000000 in
/-- tells() -/
theorem T_mtell {X : Nat × (Nat → Int32)} {h0 h : PH} {Q : Option Value → PH → Prop} {T : List Int32} {ψ : Nat → Nat → Int32} {s : Nat} (hB : Byt T) (hs2 : s ≤ T.length) (t : RTK T s ψ) {sec : Bool} {a : AS} (ma : MA T sec a ψ) (hb : a.2.1 = true) (hs : uC T s = 4) (f : Fu h0 h) (q : RU h T ψ) (kF : ∀ e, teS T sec s a = .inl e → RF h0 T ψ Q e.1 e.2) (kG : ∀ b, teS T sec s a = .inr b → RP h0 T ψ Q sec b) : WP X mX11_tells 2 43 0 (en 1 [.ref 25]) [] h Q := by
  refine w_aload_n dX11_tells_0 rfl rfl ?_
  refine u_get (k := 47) (by decide) q dX11_tells_1 fX11_265 ?_
  refine w_if_eq (tgt := 9) dX11_tells_4 (by decide) (fun c_4 => ?_) (fun c_4 => ?_)
  · rw [ma.1] at c_4
    have sf : sec = false := b01_f c_4
    have t1 : ¬ sec = true := by rw [sf]; decide
    have ml := ma.2.2.2.2.2.2.1
    have e3 : ψ 25 43 = nI (wd1 T s) := by rw [t.2.2.2.1, (sg_w (uC_4 hs).1).2]
    have w9 := wd1_p hs2
    refine w_aload_n dX11_tells_9 rfl rfl ?_
    refine w_v0 (d2 := 1) (L2 := 20) dX11_tells_10 vX11_321 rfl (q.1.lt (by decide)) (by decide) (Nat.le_of_ble_eq_true rfl) (by decide) (by decide) ?_
    refine T_which hB ml hs t.2.2.1 e3 q (fun j hj e => ?_) (fun e => ?_)
    · refine k_i rfl ?_
      refine w_iconst dX11_tells_13 (v := (-1)) (by decide) ?_
      refine w_icmp_eq (tgt := 27) dX11_tells_14 (by decide) (fun c_14 => absurd c_14 (nI_m1 (by have := ml.2.1; omega))) (fun c_14 => ?_)
      refine w_aload_n dX11_tells_17 rfl rfl ?_
      refine w_iconst dX11_tells_18 (v := 3) (by decide) ?_
      refine w_aload_n dX11_tells_19 rfl rfl ?_
      refine u_get (k := 42) (by decide) q dX11_tells_20 fX11_211 ?_
      refine w_v2 (d2 := 0) (L2 := 0) dX11_tells_23 vX11_258 rfl (q.1.lt (by decide)) rfl rfl (by decide) (Nat.le_of_ble_eq_true rfl) (by decide) (by decide) ?_
      rw [t.2.2.1]
      refine T_wrong f q (fun h1 f1 q1 => ?_)
      refine k_i rfl ?_
      refine w_iret dX11_tells_26 (fun _ e => by cases e; decide) ?_
      exact rf1 (kF (3, s) (by unfold teS; rw [if_neg t1, show fI T (laS sec a.2.2.2.2.2).2.1 s a.2.2.2.2.2.length 0 = some j from e]; rfl)) UB.rf _ f1 q1
    · refine k_i rfl ?_
      refine w_iconst dX11_tells_13 (v := (-1)) (by decide) ?_
      refine w_icmp_eq (tgt := 27) dX11_tells_14 (by decide) (fun c_14 => ?_) (fun c_14 => absurd c_14 (not_not_intro rfl))
      refine w_aload_n dX11_tells_27 rfl rfl ?_
      refine u_get (k := 36) (by decide) q dX11_tells_28 fX11_262 ?_
      refine w_sipush dX11_tells_31 (v := 200) (by decide) ?_
      refine w_icmp_ne (tgt := 47) dX11_tells_34 (by decide) (fun c_34 => ?_) (fun c_34 => ?_)
      · rw [ml.1, show (200 : Int32) = nI 200 from rfl, nI_eq (by have := ml.2.1; omega) (by decide)] at c_34
        have hn9 : a.2.2.2.2.2.length < 200 := by have := ml.2.1; omega
        refine w_aload_n dX11_tells_47 rfl rfl ?_
        refine w_gs (b := 34) q.1 dX11_tells_48 fX11_39 (by decide) rfl rfl (by decide) ?_
        refine w_aload_n dX11_tells_51 rfl rfl ?_
        refine u_get (k := 36) (by decide) q dX11_tells_52 fX11_262 ?_
        refine w_aload_n dX11_tells_55 rfl rfl ?_
        refine u_get (k := 42) (by decide) q dX11_tells_56 fX11_211 ?_
        refine u_st (c := 34) (by decide) f q dX11_tells_59 (by rw [ml.1]; exact vp_in_nI (show a.2.2.2.2.2.length < 200 by omega) (by decide)) (fun h2 f2 q2 => ?_)
        rw [ml.1, nI_clamp (by omega), t.2.2.1] at q2
        refine w_aload_n dX11_tells_60 rfl rfl ?_
        refine w_gs (b := 35) q2.1 dX11_tells_61 fX11_42 (by decide) rfl rfl (by decide) ?_
        refine w_aload_n dX11_tells_64 rfl rfl ?_
        refine u_get (k := 36) (by decide) q2 dX11_tells_65 fX11_262 ?_
        refine w_aload_n dX11_tells_68 rfl rfl ?_
        refine u_get (k := 43) (by decide) q2 dX11_tells_69 fX11_223 ?_
        refine w_aload_n dX11_tells_72 rfl rfl ?_
        refine u_get (k := 42) (by decide) q2 dX11_tells_73 fX11_211 ?_
        refine w_isub dX11_tells_76 ?_
        refine u_st (c := 35) (by decide) f2 q2 dX11_tells_77 (by rw [show uP ψ 34 a.2.2.2.2.2.length (nI s) 25 36 = nI a.2.2.2.2.2.length from (uP_c (by decide)).trans ml.1]; exact vp_in_nI (show a.2.2.2.2.2.length < 200 by omega) (by decide)) (fun h3 f3 q3 => ?_)
        rw [show uP ψ 34 a.2.2.2.2.2.length (nI s) 25 36 = nI a.2.2.2.2.2.length from (uP_c (by decide)).trans ml.1, nI_clamp (by omega), show (uP ψ 34 a.2.2.2.2.2.length (nI s) 25 43 - uP ψ 34 a.2.2.2.2.2.length (nI s) 25 42 : Int32) = nI (wd1 T s - s) from by rw [uP_c (by decide), uP_c (by decide), e3, t.2.2.1, nI_sub w9.1]] at q3
        refine w_aload_n dX11_tells_78 rfl rfl ?_
        refine w_gs (b := 36) q3.1 dX11_tells_79 fX11_45 (by decide) rfl rfl (by decide) ?_
        refine w_aload_n dX11_tells_82 rfl rfl ?_
        refine u_get (k := 36) (by decide) q3 dX11_tells_83 fX11_262 ?_
        refine w_aload_n dX11_tells_86 rfl rfl ?_
        refine u_get (k := 48) (by decide) q3 dX11_tells_87 fX11_318 ?_
        refine u_st (c := 36) (by decide) f3 q3 dX11_tells_90 (by rw [show uP (uP ψ 34 a.2.2.2.2.2.length (nI s)) 35 a.2.2.2.2.2.length (nI (wd1 T s - s)) 25 36 = nI a.2.2.2.2.2.length from (uP_c (by decide)).trans ((uP_c (by decide)).trans ml.1)]; exact vp_in_nI (show a.2.2.2.2.2.length < 200 by omega) (by decide)) (fun h4 f4 q4 => ?_)
        rw [show uP (uP ψ 34 a.2.2.2.2.2.length (nI s)) 35 a.2.2.2.2.2.length (nI (wd1 T s - s)) 25 36 = nI a.2.2.2.2.2.length from (uP_c (by decide)).trans ((uP_c (by decide)).trans ml.1), nI_clamp (by omega), show uP (uP ψ 34 a.2.2.2.2.2.length (nI s)) 35 a.2.2.2.2.2.length (nI (wd1 T s - s)) 25 48 = nI (a.2.2.2.1 + a.2.2.2.2.1.length) from (uP_c (by decide)).trans ((uP_c (by decide)).trans (ma.2.2.2.1 hb).1)] at q4
        refine w_aload_n dX11_tells_91 rfl rfl ?_
        refine w_dup dX11_tells_92 rfl ?_
        refine u_get (k := 36) (by decide) q4 dX11_tells_93 fX11_262 ?_
        refine w_iconst dX11_tells_96 (v := 1) (by decide) ?_
        refine w_iadd dX11_tells_97 ?_
        refine u_put (k := 36) (by decide) f4 q4 dX11_tells_98 fX11_262 (fun h5 f5 q5 => ?_)
        refine w_iconst dX11_tells_101 (v := 1) (by decide) ?_
        refine w_iret dX11_tells_102 (fun _ e => by cases e; decide) ?_
        rw [show uP (uP (uP ψ 34 a.2.2.2.2.2.length (nI s)) 35 a.2.2.2.2.2.length (nI (wd1 T s - s))) 36 a.2.2.2.2.2.length (nI (a.2.2.2.1 + a.2.2.2.2.1.length)) 25 36 = nI a.2.2.2.2.2.length from (uP_c (by decide)).trans ((uP_c (by decide)).trans ((uP_c (by decide)).trans ml.1)), nI_1] at q5
        exact kG _ (by unfold teS; rw [if_neg t1, show fI T (laS sec a.2.2.2.2.2).2.1 s a.2.2.2.2.2.length 0 = none from e, if_neg (show ¬ (none : Option Nat).isSome = true by decide), if_neg (by omega)]) _ _ f5 q5 ((((UB.rf.r (by decide)).r (by decide)).r (by decide)).p (by decide)) (MA.p (p := a.1) (ma.lab hs hn9) (uE_le hs2)) ((uP_k (by decide)).trans ((uP_c (by decide)).trans ((uP_c (by decide)).trans ((uP_c (by decide)).trans t.1))))
      · rw [ml.1, show (200 : Int32) = nI 200 from rfl, nI_eq (by have := ml.2.1; omega) (by decide)] at c_34
        refine w_aload_n dX11_tells_37 rfl rfl ?_
        refine w_iconst dX11_tells_38 (v := 4) (by decide) ?_
        refine w_aload_n dX11_tells_39 rfl rfl ?_
        refine u_get (k := 42) (by decide) q dX11_tells_40 fX11_211 ?_
        refine w_v2 (d2 := 0) (L2 := 0) dX11_tells_43 vX11_258 rfl (q.1.lt (by decide)) rfl rfl (by decide) (Nat.le_of_ble_eq_true rfl) (by decide) (by decide) ?_
        rw [t.2.2.1]
        refine T_wrong f q (fun h6 f6 q6 => ?_)
        refine k_i rfl ?_
        refine w_iret dX11_tells_46 (fun _ e => by cases e; decide) ?_
        exact rf1 (kF (4, s) (by unfold teS; rw [if_neg t1, show fI T (laS sec a.2.2.2.2.2).2.1 s a.2.2.2.2.2.length 0 = none from e, if_neg (show ¬ (none : Option Nat).isSome = true by decide), if_pos (by omega)])) UB.rf _ f6 q6
  · rw [ma.1] at c_4
    refine w_iconst dX11_tells_7 (v := 1) (by decide) ?_
    refine w_iret dX11_tells_8 (fun _ e => by cases e; decide) ?_
    exact kG _ (by unfold teS; rw [if_pos (b01_1 c_4)]) _ _ f q UB.rf (MA.p (p := a.1) ma (uE_le hs2)) t.1

theorem roS_m {o n m : Nat} (ho : o ≤ 65535) (hn : n ≤ 4096) (hm : m ≤ 5000) : (nI (o + n) + nI m ≤ 65536 ∧ nI n + nI m ≤ 4096) ↔ roS o n m = true := by
  rw [← roS_e ho hn hm, nI_add o n]; exact And.comm
set_option maxRecDepth 20000 in
set_option maxHeartbeats 4000000 in
/-- hasRoom() -/
theorem T_mroom {X : Nat × (Nat → Int32)} {h0 h : PH} {Q : Option Value → PH → Prop} {T : List Int32} {ψ : Nat → Nat → Int32} {m pl : Nat} (hm : m ≤ 5000) {sec : Bool} {a : AS} (ma : MA T sec a ψ) (hb : a.2.1 = true) (f : Fu h0 h) (q : RU h T ψ) (kF : roS a.2.2.2.1 a.2.2.2.2.1.length m = false → RF h0 T ψ Q 4 pl) (kG : roS a.2.2.2.1 a.2.2.2.2.1.length m = true → Q (some (.int 1)) h) : WP X mX11_hasRoom 1 22 0 (en 3 [.ref 25, .int (nI m), .int (nI pl)]) [] h Q := by
  refine w_aload_n dX11_hasRoom_0 rfl rfl ?_
  refine u_get (k := 48) (by decide) q dX11_hasRoom_1 fX11_318 ?_
  refine w_iload_n dX11_hasRoom_4 rfl rfl ?_
  refine w_iadd dX11_hasRoom_5 ?_
  refine w_ldc dX11_hasRoom_6 kX11_7 ?_
  refine w_icmp_gt (tgt := 23) dX11_hasRoom_8 (by decide) (fun c_8 => ?_) (fun c_8 => ?_)
  · rw [(ma.2.2.2.1 hb).1] at c_8
    refine w_aload_n dX11_hasRoom_23 rfl rfl ?_
    refine w_iconst dX11_hasRoom_24 (v := 4) (by decide) ?_
    refine w_iload_n dX11_hasRoom_25 rfl rfl ?_
    refine w_v2 (d2 := 0) (L2 := 0) dX11_hasRoom_26 vX11_258 rfl (q.1.lt (by decide)) rfl rfl (by decide) (Nat.le_of_ble_eq_true rfl) (by decide) (by decide) ?_
    refine T_wrong f q (fun h1 f1 q1 => ?_)
    · refine k_i rfl ?_
      refine w_if_eq (tgt := 36) dX11_hasRoom_29 (by decide) (fun c_29 => ?_) (fun c_29 => absurd c_29 (by decide))
      refine w_iconst dX11_hasRoom_36 (v := 0) (by decide) ?_
      refine w_iret dX11_hasRoom_37 (fun _ e => by cases e; decide) ?_
      exact rf1 (kF (Bool.eq_false_iff.mpr (fun e => absurd ((roS_m ma.2.2.2.2.1.1 ma.2.2.1.2 hm).mpr e).1 (Int32.not_le.mpr c_8)))) UB.rf _ f1 q1
  · rw [(ma.2.2.2.1 hb).1] at c_8
    refine w_aload_n dX11_hasRoom_11 rfl rfl ?_
    refine u_get (k := 31) (by decide) q dX11_hasRoom_12 fX11_280 ?_
    refine w_iload_n dX11_hasRoom_15 rfl rfl ?_
    refine w_iadd dX11_hasRoom_16 ?_
    refine w_sipush dX11_hasRoom_17 (v := 4096) (by decide) ?_
    refine w_icmp_le (tgt := 32) dX11_hasRoom_20 (by decide) (fun c_20 => ?_) (fun c_20 => ?_)
    · rw [ma.2.2.1.1] at c_20
      refine w_iconst dX11_hasRoom_32 (v := 1) (by decide) ?_
      refine w_goto (tgt := 37) dX11_hasRoom_33 (by decide) ?_
      refine w_iret dX11_hasRoom_37 (fun _ e => by cases e; decide) ?_
      exact kG ((roS_m ma.2.2.2.2.1.1 ma.2.2.1.2 hm).mp ⟨Int32.not_lt.mp c_8, c_20⟩)
    · rw [ma.2.2.1.1] at c_20
      refine w_aload_n dX11_hasRoom_23 rfl rfl ?_
      refine w_iconst dX11_hasRoom_24 (v := 4) (by decide) ?_
      refine w_iload_n dX11_hasRoom_25 rfl rfl ?_
      refine w_v2 (d2 := 0) (L2 := 0) dX11_hasRoom_26 vX11_258 rfl (q.1.lt (by decide)) rfl rfl (by decide) (Nat.le_of_ble_eq_true rfl) (by decide) (by decide) ?_
      refine T_wrong f q (fun h2 f2 q2 => ?_)
      · refine k_i rfl ?_
        refine w_if_eq (tgt := 36) dX11_hasRoom_29 (by decide) (fun c_29 => ?_) (fun c_29 => absurd c_29 (by decide))
        refine w_iconst dX11_hasRoom_36 (v := 0) (by decide) ?_
        refine w_iret dX11_hasRoom_37 (fun _ e => by cases e; decide) ?_
        exact rf1 (kF (Bool.eq_false_iff.mpr (fun e => c_20 ((roS_m ma.2.2.2.2.1.1 ma.2.2.1.2 hm).mpr e).2))) UB.rf _ f2 q2

def lyP (ψ : Nat → Nat → Int32) (n g : Nat) (w : Int32) : Nat → Nat → Int32 := uP (uP (uP ψ 33 n (w &&& 65535)) 25 31 (nI (n + 1))) 25 48 (nI (g + 1))
theorem MA.lay {T : List Int32} {sec : Bool} {p o : Nat} {v : Bool} {made : List Int32} {l : List (Nat × Nat)} {ψ : Nat → Nat → Int32} {x w : Int32} (h : MA T sec (p, true, v, o, made, l) ψ) (h1 : made.length < 4096) (h2 : o + made.length + 1 ≤ 65536) (hx : sec = true → x &&& 65535 = w) : MA T sec (p, true, v, o, made ++ [w], l) (lyP ψ made.length (o + made.length) x) := by
  obtain ⟨a1, a2, a3, a4, a5, a6, a7, a8, a9⟩ := h
  have c25 : ∀ k, k ≠ 31 → k ≠ 48 → lyP ψ made.length (o + made.length) x 25 k = ψ 25 k := fun k g1 g2 => (uP_k g2).trans ((uP_k g1).trans (uP_c (by decide)))
  have l1 : (made ++ [w]).length = made.length + 1 := by rw [List.length_append]; rfl
  refine ⟨(c25 47 (by decide) (by decide)).trans a1, ⟨(c25 49 (by decide) (by decide)).trans a2.1, (c25 50 (by decide) (by decide)).trans a2.2⟩, ⟨?_, ?_⟩, fun _ => ⟨?_, (c25 32 (by decide) (by decide)).trans (a4 rfl).2⟩, ⟨a5.1, ?_⟩, fun hs i y hy => ?_, ⟨(c25 36 (by decide) (by decide)).trans a7.1, a7.2.1, fun i hi => ?_⟩, ⟨(c25 28 (by decide) (by decide)).trans a8.1, (c25 29 (by decide) (by decide)).trans a8.2⟩, a9⟩
  · show _ = nI (made ++ [w]).length
    rw [l1]; exact (uP_k (by decide)).trans uP_s
  · show (made ++ [w]).length ≤ 4096
    omega
  · show _ = nI (o + (made ++ [w]).length)
    rw [l1]; exact uP_s
  · show o + (made ++ [w]).length ≤ 65536
    omega
  · change (made ++ [w])[i]? = some y at hy
    unfold lyP
    rw [uP_c (by decide), uP_c (by decide)]
    by_cases c : i = made.length
    · subst c; rw [uP_s, hx hs]; rw [List.getElem?_append_right (Nat.le_refl _), Nat.sub_self] at hy; exact Option.some.inj hy
    · have hl : i < made.length := by
        have := (List.getElem?_eq_some_iff.mp hy).1
        omega
      rw [uP_k c]; rw [List.getElem?_append_left hl] at hy; exact a6 hs i y hy
  · have b := a7.2.2 i hi
    have cc : ∀ c, c ≠ 25 → c ≠ 33 → lyP ψ made.length (o + made.length) x c i = ψ c i := fun c g1 g2 => (uP_c g1).trans ((uP_c g1).trans (uP_c g2))
    exact ⟨(cc 34 (by decide) (by decide)).trans b.1, (cc 35 (by decide) (by decide)).trans b.2.1, (cc 36 (by decide) (by decide)).trans b.2.2.1, b.2.2.2⟩
theorem lyP_ub {ψ φ : Nat → Nat → Int32} {n g : Nat} {w : Int32} (u : UB ψ φ) : UB ψ (lyP φ n g w) := ((u.r (by decide)).p (by decide)).p (by decide)
theorem lyP_25 {ψ : Nat → Nat → Int32} {n g k : Nat} {w : Int32} (h1 : k ≠ 31) (h2 : k ≠ 48) : lyP ψ n g w 25 k = ψ 25 k := (uP_k h2).trans ((uP_k h1).trans (uP_c (by decide)))
theorem lyP_38 {ψ : Nat → Nat → Int32} {n g k : Nat} {w : Int32} : lyP ψ n g w 38 k = ψ 38 k := (uP_c (by decide)).trans ((uP_c (by decide)).trans (uP_c (by decide)))
set_option maxRecDepth 20000 in
set_option maxHeartbeats 4000000 in
/-- lay() -/
theorem T_lay {X : Nat × (Nat → Int32)} {h0 h : PH} {Q : Option Value → PH → Prop} {T : List Int32} {ψ : Nat → Nat → Int32} {n g : Nat} {w : Int32} (e1 : ψ 25 31 = nI n) (e2 : ψ 25 48 = nI g) (hn : n < 4096) (f : Fu h0 h) (q : RU h T ψ) (k : ∀ h', Fu h0 h' → RU h' T (lyP ψ n g w) → Q none h') : WP X mX11_lay 1 20 0 (en 2 [.ref 25, .int w]) [] h Q := by
  refine w_aload_n dX11_lay_0 rfl rfl ?_
  refine w_gs (b := 33) q.1 dX11_lay_1 fX11_36 (by decide) rfl rfl (by decide) ?_
  refine w_aload_n dX11_lay_4 rfl rfl ?_
  refine u_get (k := 31) (by decide) q dX11_lay_5 fX11_280 ?_
  refine w_iload_n dX11_lay_8 rfl rfl ?_
  refine w_s1 (d2 := 0) (L2 := 0) dX11_lay_9 vX11_93 rfl (by decide) (Nat.le_of_ble_eq_true rfl) (by decide) (by decide) ?_
  refine T_cut ?_
  refine k_i rfl ?_
  refine u_st (c := 33) (by decide) f q dX11_lay_12 (by rw [e1]; exact vp_in_nI (show n < 4096 from hn) (by decide)) (fun h1 f1 q1 => ?_)
  rw [e1, nI_clamp (by omega)] at q1
  refine w_aload_n dX11_lay_13 rfl rfl ?_
  refine w_dup dX11_lay_14 rfl ?_
  refine u_get (k := 31) (by decide) q1 dX11_lay_15 fX11_280 ?_
  refine w_iconst dX11_lay_18 (v := 1) (by decide) ?_
  refine w_iadd dX11_lay_19 ?_
  refine u_put (k := 31) (by decide) f1 q1 dX11_lay_20 fX11_280 (fun h2 f2 q2 => ?_)
  refine w_aload_n dX11_lay_23 rfl rfl ?_
  refine w_dup dX11_lay_24 rfl ?_
  refine u_get (k := 48) (by decide) q2 dX11_lay_25 fX11_318 ?_
  refine w_iconst dX11_lay_28 (v := 1) (by decide) ?_
  refine w_iadd dX11_lay_29 ?_
  refine u_put (k := 48) (by decide) f2 q2 dX11_lay_30 fX11_318 (fun h3 f3 q3 => ?_)
  refine w_vret dX11_lay_33 ?_
  rw [show uP ψ 33 n (w &&& 65535) 25 31 = nI n from (uP_c (by decide)).trans e1, nI_1, show uP (uP ψ 33 n (w &&& 65535)) 25 31 (nI (n + 1)) 25 48 = nI g from (uP_k (by decide)).trans ((uP_c (by decide)).trans e2), nI_1] at q3
  exact k _ f3 q3

def vlS (T : List Int32) (Λ : LbS) (here s : Nat) (lo hi : Int32) (ds : Bool) : RS := if uC T s = 2 then (if uV T s < lo then .inl 2 else if hi < uV T s then .inl 2 else .inr (uV T s)) else if uC T s = 4 then (match plS T Λ s with
    | none => .inl 5
    | some p => if Λ.1 = true ∧ ds = true ∧ ((if ds = true then nI p - (nI here + 1) else nI p) < lo ∨ hi < (if ds = true then nI p - (nI here + 1) else nI p)) then .inl 6 else .inr (if ds = true then nI p - (nI here + 1) else nI p))
  else .inl 1
theorem sub_1 (x y : Int32) : x - y - 1 = x - (y + 1) := Int32.sub_sub x y 1
set_option maxRecDepth 20000 in
set_option maxHeartbeats 4000000 in
/-- value() -/
theorem T_val1 {X : Nat × (Nat → Int32)} {h0 h : PH} {Q : Option Value → PH → Prop} {T : List Int32} {ψ : Nat → Nat → Int32} {lo hi : Int32} {s : Nat} (hB : Byt T) (hs2 : s ≤ T.length) (t : RTK T s ψ) {sec : Bool} {a : AS} (ma : MA T sec a ψ) (hb : a.2.1 = true) (f : Fu h0 h) (q : RU h T ψ) (kF : ∀ e, vlS T (laS sec a.2.2.2.2.2) (a.2.2.2.1 + a.2.2.2.2.1.length) s lo hi true = .inl e → RF h0 T ψ Q e s) (kG : ∀ x, vlS T (laS sec a.2.2.2.2.2) (a.2.2.2.1 + a.2.2.2.2.1.length) s lo hi true = .inr x → RG h0 T ψ Q (uE T s) (fun y => sec = true → y = x)) : WP X mX11_value 6 132 0 (en 5 [.ref 25, .int lo, .int hi, .int 1]) [] h Q := by
  refine w_aload_n dX11_value_0 rfl rfl ?_
  refine w_iconst dX11_value_1 (v := 0) (by decide) ?_
  refine u_put (k := 51) (by decide) f q dX11_value_2 fX11_331 (fun h1 f1 q1 => ?_)
  have u1 : UV ψ (uP ψ 25 51 0) := UV.rf.p (Or.inr rfl)
  have tt1 : RTK T s (uP ψ 25 51 0) := ⟨(uP_k (by decide)).trans t.1, (uP_k (by decide)).trans t.2.1, (uP_k (by decide)).trans t.2.2.1, (uP_k (by decide)).trans t.2.2.2.1, fun e => ⟨(uP_k (by decide)).trans (t.2.2.2.2 e).1, fun i v hv => (uP_c (by decide)).trans ((t.2.2.2.2 e).2 i v hv)⟩⟩
  have ma1 := ma.uv u1
  refine w_aload_n dX11_value_5 rfl rfl ?_
  refine w_v0 (d2 := 2) (L2 := 41) dX11_value_6 vX11_246 rfl (q1.1.lt (by decide)) (by decide) (Nat.le_of_ble_eq_true rfl) (by decide) (by decide) ?_
  refine T_isNum hB hs2 tt1 f1 q1 (fun d2 => ?_) (fun d2 ha fa qa => ?_)
  · refine k_i rfl ?_
    refine w_if_eq (tgt := 54) dX11_value_9 (by decide) (fun c_9 => ?_) (fun c_9 => absurd c_9 (by decide))
    refine w_aload_n dX11_value_54 rfl rfl ?_
    refine w_v0 (d2 := 5) (L2 := 110) dX11_value_55 vX11_303 rfl (q1.1.lt (by decide)) (by decide) (Nat.le_of_ble_eq_true rfl) (by decide) (by decide) ?_
    refine T_isLab hB hs2 tt1 f1 q1 (fun d4 hb9 φb fb qb ub => ?_) (fun d4 => ?_)
    · refine k_i rfl ?_
      refine w_if_ne (tgt := 66) dX11_value_58 (by decide) (fun c_58 => absurd c_58 (by decide)) (fun c_58 => ?_)
      refine w_aload_n dX11_value_61 rfl rfl ?_
      refine w_v0 (d2 := 1) (L2 := 22) dX11_value_62 vX11_309 rfl (qb.1.lt (by decide)) (by decide) (Nat.le_of_ble_eq_true rfl) (by decide) (by decide) ?_
      refine T_wrt (tt1.un ub).2.2.1 fb qb (fun hc fc qc => ?_)
      refine k_i rfl ?_
      refine w_iret dX11_value_65 (fun _ e => by cases e; decide) ?_
      exact rf1 (kF 1 (by unfold vlS; rw [if_neg d2, if_neg d4])) (u1.tr ub.ua.uv).ub _ fc qc
    · refine k_i rfl ?_
      refine w_if_ne (tgt := 66) dX11_value_58 (by decide) (fun c_58 => ?_) (fun c_58 => absurd c_58 (by decide))
      refine w_aload_n dX11_value_66 rfl rfl ?_
      refine u_get (k := 47) (by decide) q1 dX11_value_67 fX11_265 ?_
      refine w_if_ne (tgt := 75) dX11_value_70 (by decide) (fun c_70 => ?_) (fun c_70 => ?_)
      · rw [ma1.1] at c_70
        have ml := ma1.2.2.2.2.2.2.1
        have e3 : uP ψ 25 51 0 25 43 = nI (wd1 T s) := by rw [tt1.2.2.2.1, (sg_w (uC_4 d4).1).2]
        have st1 : sec = true := b01_1 c_70
        have l2 := ml.2.1
        refine w_aload_n dX11_value_75 rfl rfl ?_
        refine w_v0 (d2 := 1) (L2 := 20) dX11_value_76 vX11_321 rfl (q1.1.lt (by decide)) (by decide) (Nat.le_of_ble_eq_true rfl) (by decide) (by decide) ?_
        refine T_which hB ml d4 tt1.2.2.1 e3 q1 (fun j hj e => ?_) (fun e => ?_)
        · refine k_i rfl ?_
          refine w_istore dX11_value_79 (by decide) ?_
          refine w_iload dX11_value_81 rfl ?_
          refine w_iconst dX11_value_83 (v := (-1)) (by decide) ?_
          refine w_icmp_ne (tgt := 97) dX11_value_84 (by decide) (fun c_84 => ?_) (fun c_84 => absurd c_84 (nI_m1 (by omega)))
          have pl : plS T (laS sec a.2.2.2.2.2) s = some (a.2.2.2.2.2.getD j (0, 0)).2 := by unfold plS; rw [if_pos (show (laS sec a.2.2.2.2.2).1 = true from st1)]; show Option.map _ (fI T (fun i => (a.2.2.2.2.2.getD i (0, 0)).1) s a.2.2.2.2.2.length 0) = _; rw [e]; rfl
          have lj := (ml.2.2 j hj).2.2.1
          have pc9 := (ma1.2.2.2.1 hb).1
          refine w_aload_n dX11_value_97 rfl rfl ?_
          refine w_iload_n dX11_value_98 rfl rfl ?_
          refine w_if_eq (tgt := 119) dX11_value_99 (by decide) (fun c_99 => absurd c_99 (by decide)) (fun c_99 => ?_)
          refine w_aload_n dX11_value_102 rfl rfl ?_
          refine w_gs (b := 36) q1.1 dX11_value_103 fX11_45 (by decide) rfl rfl (by decide) ?_
          refine w_iload dX11_value_106 rfl ?_
          refine u_ld (c := 36) (by decide) q1 dX11_value_108 (vp_in_nI (show j < 200 by omega) (by decide)) ?_
          rw [nI_clamp (by omega), lj]
          refine w_aload_n dX11_value_109 rfl rfl ?_
          refine u_get (k := 48) (by decide) q1 dX11_value_110 fX11_318 ?_
          refine w_isub dX11_value_113 ?_
          refine w_iconst dX11_value_114 (v := 1) (by decide) ?_
          refine w_isub dX11_value_115 ?_
          refine w_goto (tgt := 126) dX11_value_116 (by decide) ?_
          rw [pc9, sub_1]
          refine u_put (k := 51) (by decide) f1 q1 dX11_value_126 fX11_331 (fun h2 f2 q2 => ?_)
          refine w_iload_n dX11_value_129 rfl rfl ?_
          refine w_if_eq (tgt := 162) dX11_value_130 (by decide) (fun c_130 => absurd c_130 (by decide)) (fun c_130 => ?_)
          refine w_aload_n dX11_value_133 rfl rfl ?_
          refine u_get (k := 51) (by decide) q2 dX11_value_134 fX11_331 ?_
          refine w_iload_n dX11_value_137 rfl rfl ?_
          refine w_icmp_lt (tgt := 149) dX11_value_138 (by decide) (fun c_138 => ?_) (fun c_138 => ?_)
          · rw [uP_s] at c_138
            refine w_aload_n dX11_value_149 rfl rfl ?_
            refine w_bipush dX11_value_150 (v := 6) (by decide) ?_
            refine w_aload_n dX11_value_152 rfl rfl ?_
            refine u_get (k := 42) (by decide) q2 dX11_value_153 fX11_211 ?_
            refine w_v2 (d2 := 0) (L2 := 0) dX11_value_156 vX11_258 rfl (q2.1.lt (by decide)) rfl rfl (by decide) (Nat.le_of_ble_eq_true rfl) (by decide) (by decide) ?_
            rw [show uP (uP ψ 25 51 0) 25 51 _ 25 42 = nI s from (uP_k (by decide)).trans tt1.2.2.1]
            refine T_wrong f2 q2 (fun h3 f3 q3 => ?_)
            · refine k_i rfl ?_
              refine w_if_eq (tgt := 166) dX11_value_159 (by decide) (fun c_159 => ?_) (fun c_159 => absurd c_159 (by decide))
              refine w_iconst dX11_value_166 (v := 0) (by decide) ?_
              refine w_iret dX11_value_167 (fun _ e => by cases e; decide) ?_
              exact rf1 (kF 6 (by unfold vlS; rw [if_neg d2, if_pos d4, pl]; exact if_pos ⟨st1, rfl, Or.inl c_138⟩)) (u1.p (Or.inr rfl)).ub _ f3 q3
          · rw [uP_s] at c_138
            refine w_aload_n dX11_value_141 rfl rfl ?_
            refine u_get (k := 51) (by decide) q2 dX11_value_142 fX11_331 ?_
            refine w_iload_n dX11_value_145 rfl rfl ?_
            refine w_icmp_le (tgt := 162) dX11_value_146 (by decide) (fun c_146 => ?_) (fun c_146 => ?_)
            · rw [uP_s] at c_146
              refine w_iconst dX11_value_162 (v := 1) (by decide) ?_
              refine w_goto (tgt := 167) dX11_value_163 (by decide) ?_
              refine w_iret dX11_value_167 (fun _ e => by cases e; decide) ?_
              exact kG _ (by unfold vlS; rw [if_neg d2, if_pos d4, pl]; exact if_neg (fun x => x.2.2.elim c_138 (fun y => absurd c_146 (Int32.not_le.mpr y)))) _ _ f2 q2 (u1.p (Or.inr rfl)) ((uP_k (by decide)).trans tt1.1) (fun _ => uP_s)
            · rw [uP_s] at c_146
              refine w_aload_n dX11_value_149 rfl rfl ?_
              refine w_bipush dX11_value_150 (v := 6) (by decide) ?_
              refine w_aload_n dX11_value_152 rfl rfl ?_
              refine u_get (k := 42) (by decide) q2 dX11_value_153 fX11_211 ?_
              refine w_v2 (d2 := 0) (L2 := 0) dX11_value_156 vX11_258 rfl (q2.1.lt (by decide)) rfl rfl (by decide) (Nat.le_of_ble_eq_true rfl) (by decide) (by decide) ?_
              rw [show uP (uP ψ 25 51 0) 25 51 _ 25 42 = nI s from (uP_k (by decide)).trans tt1.2.2.1]
              refine T_wrong f2 q2 (fun h4 f4 q4 => ?_)
              · refine k_i rfl ?_
                refine w_if_eq (tgt := 166) dX11_value_159 (by decide) (fun c_159 => ?_) (fun c_159 => absurd c_159 (by decide))
                refine w_iconst dX11_value_166 (v := 0) (by decide) ?_
                refine w_iret dX11_value_167 (fun _ e => by cases e; decide) ?_
                exact rf1 (kF 6 (by unfold vlS; rw [if_neg d2, if_pos d4, pl]; exact if_pos ⟨st1, rfl, Or.inr (Int32.not_le.mp c_146)⟩)) (u1.p (Or.inr rfl)).ub _ f4 q4
        · refine k_i rfl ?_
          refine w_istore dX11_value_79 (by decide) ?_
          refine w_iload dX11_value_81 rfl ?_
          refine w_iconst dX11_value_83 (v := (-1)) (by decide) ?_
          refine w_icmp_ne (tgt := 97) dX11_value_84 (by decide) (fun c_84 => absurd c_84 (not_not_intro rfl)) (fun c_84 => ?_)
          refine w_aload_n dX11_value_87 rfl rfl ?_
          refine w_iconst dX11_value_88 (v := 5) (by decide) ?_
          refine w_aload_n dX11_value_89 rfl rfl ?_
          refine u_get (k := 42) (by decide) q1 dX11_value_90 fX11_211 ?_
          refine w_v2 (d2 := 0) (L2 := 0) dX11_value_93 vX11_258 rfl (q1.1.lt (by decide)) rfl rfl (by decide) (Nat.le_of_ble_eq_true rfl) (by decide) (by decide) ?_
          rw [tt1.2.2.1]
          refine T_wrong f1 q1 (fun hc fc qc => ?_)
          refine k_i rfl ?_
          refine w_iret dX11_value_96 (fun _ e => by cases e; decide) ?_
          exact rf1 (kF 5 (by unfold vlS; rw [if_neg d2, if_pos d4, show plS T (laS sec a.2.2.2.2.2) s = none from by unfold plS; rw [if_pos (show (laS sec a.2.2.2.2.2).1 = true from st1)]; show Option.map _ (fI T (fun i => (a.2.2.2.2.2.getD i (0, 0)).1) s a.2.2.2.2.2.length 0) = none; rw [e]; rfl])) u1.ub _ fc qc
      · rw [ma1.1] at c_70
        refine w_iconst dX11_value_73 (v := 1) (by decide) ?_
        refine w_iret dX11_value_74 (fun _ e => by cases e; decide) ?_
        exact kG _ (by unfold vlS; rw [if_neg d2, if_pos d4, show plS T (laS sec a.2.2.2.2.2) s = some 0 from if_neg (by show ¬ sec = true; rw [b01_f c_70]; decide)]; exact if_neg (fun x => by have := x.1; rw [show (laS sec a.2.2.2.2.2).1 = false from b01_f c_70] at this; exact absurd this (by decide))) _ _ f1 q1 u1 tt1.1 (fun hs => by rw [b01_f c_70] at hs; cases hs)
  · refine k_i rfl ?_
    refine w_if_eq (tgt := 54) dX11_value_9 (by decide) (fun c_9 => absurd c_9 (by decide)) (fun c_9 => ?_)
    have ua : UV ψ (uP (uP ψ 25 51 0) 25 44 (uV T s)) := u1.p (Or.inl (by decide))
    refine w_aload_n dX11_value_12 rfl rfl ?_
    refine w_aload_n dX11_value_13 rfl rfl ?_
    refine u_get (k := 44) (by decide) qa dX11_value_14 fX11_232 ?_
    refine u_put (k := 51) (by decide) fa qa dX11_value_17 fX11_331 (fun h5 f5 q5 => ?_)
    have un : ∀ x : Int32, uP (uP (uP ψ 25 51 0) 25 44 (uV T s)) 25 51 x 25 44 = uV T s := fun x => (uP_k (by decide)).trans uP_s
    have ut : ∀ x : Int32, uP (uP (uP ψ 25 51 0) 25 44 (uV T s)) 25 51 x 25 42 = nI s := fun x => (uP_k (by decide)).trans ((uP_k (by decide)).trans tt1.2.2.1)
    refine w_aload_n dX11_value_20 rfl rfl ?_
    refine u_get (k := 44) (by decide) q5 dX11_value_21 fX11_232 ?_
    refine w_iload_n dX11_value_24 rfl rfl ?_
    refine w_icmp_lt (tgt := 36) dX11_value_25 (by decide) (fun c_25 => ?_) (fun c_25 => ?_)
    · rw [un] at c_25
      refine w_aload_n dX11_value_36 rfl rfl ?_
      refine w_iconst dX11_value_37 (v := 2) (by decide) ?_
      refine w_aload_n dX11_value_38 rfl rfl ?_
      refine u_get (k := 42) (by decide) q5 dX11_value_39 fX11_211 ?_
      refine w_v2 (d2 := 0) (L2 := 0) dX11_value_42 vX11_258 rfl (q5.1.lt (by decide)) rfl rfl (by decide) (Nat.le_of_ble_eq_true rfl) (by decide) (by decide) ?_
      rw [ut]
      refine T_wrong f5 q5 (fun h6 f6 q6 => ?_)
      · refine k_i rfl ?_
        refine w_if_eq (tgt := 52) dX11_value_45 (by decide) (fun c_45 => ?_) (fun c_45 => absurd c_45 (by decide))
        refine w_iconst dX11_value_52 (v := 0) (by decide) ?_
        refine w_iret dX11_value_53 (fun _ e => by cases e; decide) ?_
        exact rf1 (kF 2 (by unfold vlS; rw [if_pos d2, if_pos c_25])) (ua.p (Or.inr rfl)).ub _ f6 q6
    · rw [un] at c_25
      refine w_aload_n dX11_value_28 rfl rfl ?_
      refine u_get (k := 44) (by decide) q5 dX11_value_29 fX11_232 ?_
      refine w_iload_n dX11_value_32 rfl rfl ?_
      refine w_icmp_le (tgt := 48) dX11_value_33 (by decide) (fun c_33 => ?_) (fun c_33 => ?_)
      · rw [un] at c_33
        refine w_iconst dX11_value_48 (v := 1) (by decide) ?_
        refine w_goto (tgt := 53) dX11_value_49 (by decide) ?_
        refine w_iret dX11_value_53 (fun _ e => by cases e; decide) ?_
        exact kG (uV T s) (by unfold vlS; rw [if_pos d2, if_neg c_25, if_neg (Int32.not_lt.mpr c_33)]) _ _ f5 q5 (ua.p (Or.inr rfl)) ((uP_k (by decide)).trans ((uP_k (by decide)).trans tt1.1)) (fun _ => uP_s.trans uP_s)
      · rw [un] at c_33
        refine w_aload_n dX11_value_36 rfl rfl ?_
        refine w_iconst dX11_value_37 (v := 2) (by decide) ?_
        refine w_aload_n dX11_value_38 rfl rfl ?_
        refine u_get (k := 42) (by decide) q5 dX11_value_39 fX11_211 ?_
        refine w_v2 (d2 := 0) (L2 := 0) dX11_value_42 vX11_258 rfl (q5.1.lt (by decide)) rfl rfl (by decide) (Nat.le_of_ble_eq_true rfl) (by decide) (by decide) ?_
        rw [ut]
        refine T_wrong f5 q5 (fun h7 f7 q7 => ?_)
        · refine k_i rfl ?_
          refine w_if_eq (tgt := 52) dX11_value_45 (by decide) (fun c_45 => ?_) (fun c_45 => absurd c_45 (by decide))
          refine w_iconst dX11_value_52 (v := 0) (by decide) ?_
          refine w_iret dX11_value_53 (fun _ e => by cases e; decide) ?_
          exact rf1 (kF 2 (by unfold vlS; rw [if_pos d2, if_neg c_25, if_pos (Int32.not_le.mp c_33)])) (ua.p (Or.inr rfl)).ub _ f7 q7

set_option maxRecDepth 20000 in
set_option maxHeartbeats 4000000 in
/-- value() -/
theorem T_val0 {X : Nat × (Nat → Int32)} {h0 h : PH} {Q : Option Value → PH → Prop} {T : List Int32} {ψ : Nat → Nat → Int32} {lo hi : Int32} {s : Nat} (hB : Byt T) (hs2 : s ≤ T.length) (t : RTK T s ψ) {sec : Bool} {a : AS} (ma : MA T sec a ψ) (hb : a.2.1 = true) (f : Fu h0 h) (q : RU h T ψ) (kF : ∀ e, vlS T (laS sec a.2.2.2.2.2) (a.2.2.2.1 + a.2.2.2.2.1.length) s lo hi false = .inl e → RF h0 T ψ Q e s) (kG : ∀ x, vlS T (laS sec a.2.2.2.2.2) (a.2.2.2.1 + a.2.2.2.2.1.length) s lo hi false = .inr x → RG h0 T ψ Q (uE T s) (fun y => sec = true → y = x)) : WP X mX11_value 6 132 0 (en 5 [.ref 25, .int lo, .int hi, .int 0]) [] h Q := by
  refine w_aload_n dX11_value_0 rfl rfl ?_
  refine w_iconst dX11_value_1 (v := 0) (by decide) ?_
  refine u_put (k := 51) (by decide) f q dX11_value_2 fX11_331 (fun h1 f1 q1 => ?_)
  have u1 : UV ψ (uP ψ 25 51 0) := UV.rf.p (Or.inr rfl)
  have tt1 : RTK T s (uP ψ 25 51 0) := ⟨(uP_k (by decide)).trans t.1, (uP_k (by decide)).trans t.2.1, (uP_k (by decide)).trans t.2.2.1, (uP_k (by decide)).trans t.2.2.2.1, fun e => ⟨(uP_k (by decide)).trans (t.2.2.2.2 e).1, fun i v hv => (uP_c (by decide)).trans ((t.2.2.2.2 e).2 i v hv)⟩⟩
  have ma1 := ma.uv u1
  refine w_aload_n dX11_value_5 rfl rfl ?_
  refine w_v0 (d2 := 2) (L2 := 41) dX11_value_6 vX11_246 rfl (q1.1.lt (by decide)) (by decide) (Nat.le_of_ble_eq_true rfl) (by decide) (by decide) ?_
  refine T_isNum hB hs2 tt1 f1 q1 (fun d2 => ?_) (fun d2 ha fa qa => ?_)
  · refine k_i rfl ?_
    refine w_if_eq (tgt := 54) dX11_value_9 (by decide) (fun c_9 => ?_) (fun c_9 => absurd c_9 (by decide))
    refine w_aload_n dX11_value_54 rfl rfl ?_
    refine w_v0 (d2 := 5) (L2 := 110) dX11_value_55 vX11_303 rfl (q1.1.lt (by decide)) (by decide) (Nat.le_of_ble_eq_true rfl) (by decide) (by decide) ?_
    refine T_isLab hB hs2 tt1 f1 q1 (fun d4 hb9 φb fb qb ub => ?_) (fun d4 => ?_)
    · refine k_i rfl ?_
      refine w_if_ne (tgt := 66) dX11_value_58 (by decide) (fun c_58 => absurd c_58 (by decide)) (fun c_58 => ?_)
      refine w_aload_n dX11_value_61 rfl rfl ?_
      refine w_v0 (d2 := 1) (L2 := 22) dX11_value_62 vX11_309 rfl (qb.1.lt (by decide)) (by decide) (Nat.le_of_ble_eq_true rfl) (by decide) (by decide) ?_
      refine T_wrt (tt1.un ub).2.2.1 fb qb (fun hc fc qc => ?_)
      refine k_i rfl ?_
      refine w_iret dX11_value_65 (fun _ e => by cases e; decide) ?_
      exact rf1 (kF 1 (by unfold vlS; rw [if_neg d2, if_neg d4])) (u1.tr ub.ua.uv).ub _ fc qc
    · refine k_i rfl ?_
      refine w_if_ne (tgt := 66) dX11_value_58 (by decide) (fun c_58 => ?_) (fun c_58 => absurd c_58 (by decide))
      refine w_aload_n dX11_value_66 rfl rfl ?_
      refine u_get (k := 47) (by decide) q1 dX11_value_67 fX11_265 ?_
      refine w_if_ne (tgt := 75) dX11_value_70 (by decide) (fun c_70 => ?_) (fun c_70 => ?_)
      · rw [ma1.1] at c_70
        have ml := ma1.2.2.2.2.2.2.1
        have e3 : uP ψ 25 51 0 25 43 = nI (wd1 T s) := by rw [tt1.2.2.2.1, (sg_w (uC_4 d4).1).2]
        have st1 : sec = true := b01_1 c_70
        have l2 := ml.2.1
        refine w_aload_n dX11_value_75 rfl rfl ?_
        refine w_v0 (d2 := 1) (L2 := 20) dX11_value_76 vX11_321 rfl (q1.1.lt (by decide)) (by decide) (Nat.le_of_ble_eq_true rfl) (by decide) (by decide) ?_
        refine T_which hB ml d4 tt1.2.2.1 e3 q1 (fun j hj e => ?_) (fun e => ?_)
        · refine k_i rfl ?_
          refine w_istore dX11_value_79 (by decide) ?_
          refine w_iload dX11_value_81 rfl ?_
          refine w_iconst dX11_value_83 (v := (-1)) (by decide) ?_
          refine w_icmp_ne (tgt := 97) dX11_value_84 (by decide) (fun c_84 => ?_) (fun c_84 => absurd c_84 (nI_m1 (by omega)))
          have pl : plS T (laS sec a.2.2.2.2.2) s = some (a.2.2.2.2.2.getD j (0, 0)).2 := by unfold plS; rw [if_pos (show (laS sec a.2.2.2.2.2).1 = true from st1)]; show Option.map _ (fI T (fun i => (a.2.2.2.2.2.getD i (0, 0)).1) s a.2.2.2.2.2.length 0) = _; rw [e]; rfl
          have lj := (ml.2.2 j hj).2.2.1
          have pc9 := (ma1.2.2.2.1 hb).1
          refine w_aload_n dX11_value_97 rfl rfl ?_
          refine w_iload_n dX11_value_98 rfl rfl ?_
          refine w_if_eq (tgt := 119) dX11_value_99 (by decide) (fun c_99 => ?_) (fun c_99 => absurd c_99 (by decide))
          refine w_aload_n dX11_value_119 rfl rfl ?_
          refine w_gs (b := 36) q1.1 dX11_value_120 fX11_45 (by decide) rfl rfl (by decide) ?_
          refine w_iload dX11_value_123 rfl ?_
          refine u_ld (c := 36) (by decide) q1 dX11_value_125 (vp_in_nI (show j < 200 by omega) (by decide)) ?_
          rw [nI_clamp (by omega), lj]
          
          refine u_put (k := 51) (by decide) f1 q1 dX11_value_126 fX11_331 (fun h2 f2 q2 => ?_)
          refine w_iload_n dX11_value_129 rfl rfl ?_
          refine w_if_eq (tgt := 162) dX11_value_130 (by decide) (fun c_130 => ?_) (fun c_130 => absurd c_130 (by decide))
          refine w_iconst dX11_value_162 (v := 1) (by decide) ?_
          refine w_goto (tgt := 167) dX11_value_163 (by decide) ?_
          refine w_iret dX11_value_167 (fun _ e => by cases e; decide) ?_
          exact kG _ (by unfold vlS; rw [if_neg d2, if_pos d4, pl]; exact if_neg (fun x => absurd x.2.1 (by decide))) _ _ f2 q2 (u1.p (Or.inr rfl)) ((uP_k (by decide)).trans tt1.1) (fun _ => uP_s)
        · refine k_i rfl ?_
          refine w_istore dX11_value_79 (by decide) ?_
          refine w_iload dX11_value_81 rfl ?_
          refine w_iconst dX11_value_83 (v := (-1)) (by decide) ?_
          refine w_icmp_ne (tgt := 97) dX11_value_84 (by decide) (fun c_84 => absurd c_84 (not_not_intro rfl)) (fun c_84 => ?_)
          refine w_aload_n dX11_value_87 rfl rfl ?_
          refine w_iconst dX11_value_88 (v := 5) (by decide) ?_
          refine w_aload_n dX11_value_89 rfl rfl ?_
          refine u_get (k := 42) (by decide) q1 dX11_value_90 fX11_211 ?_
          refine w_v2 (d2 := 0) (L2 := 0) dX11_value_93 vX11_258 rfl (q1.1.lt (by decide)) rfl rfl (by decide) (Nat.le_of_ble_eq_true rfl) (by decide) (by decide) ?_
          rw [tt1.2.2.1]
          refine T_wrong f1 q1 (fun hc fc qc => ?_)
          refine k_i rfl ?_
          refine w_iret dX11_value_96 (fun _ e => by cases e; decide) ?_
          exact rf1 (kF 5 (by unfold vlS; rw [if_neg d2, if_pos d4, show plS T (laS sec a.2.2.2.2.2) s = none from by unfold plS; rw [if_pos (show (laS sec a.2.2.2.2.2).1 = true from st1)]; show Option.map _ (fI T (fun i => (a.2.2.2.2.2.getD i (0, 0)).1) s a.2.2.2.2.2.length 0) = none; rw [e]; rfl])) u1.ub _ fc qc
      · rw [ma1.1] at c_70
        refine w_iconst dX11_value_73 (v := 1) (by decide) ?_
        refine w_iret dX11_value_74 (fun _ e => by cases e; decide) ?_
        exact kG _ (by unfold vlS; rw [if_neg d2, if_pos d4, show plS T (laS sec a.2.2.2.2.2) s = some 0 from if_neg (by show ¬ sec = true; rw [b01_f c_70]; decide)]; exact if_neg (fun x => by have := x.1; rw [show (laS sec a.2.2.2.2.2).1 = false from b01_f c_70] at this; exact absurd this (by decide))) _ _ f1 q1 u1 tt1.1 (fun hs => by rw [b01_f c_70] at hs; cases hs)
  · refine k_i rfl ?_
    refine w_if_eq (tgt := 54) dX11_value_9 (by decide) (fun c_9 => absurd c_9 (by decide)) (fun c_9 => ?_)
    have ua : UV ψ (uP (uP ψ 25 51 0) 25 44 (uV T s)) := u1.p (Or.inl (by decide))
    refine w_aload_n dX11_value_12 rfl rfl ?_
    refine w_aload_n dX11_value_13 rfl rfl ?_
    refine u_get (k := 44) (by decide) qa dX11_value_14 fX11_232 ?_
    refine u_put (k := 51) (by decide) fa qa dX11_value_17 fX11_331 (fun h3 f3 q3 => ?_)
    have un : ∀ x : Int32, uP (uP (uP ψ 25 51 0) 25 44 (uV T s)) 25 51 x 25 44 = uV T s := fun x => (uP_k (by decide)).trans uP_s
    have ut : ∀ x : Int32, uP (uP (uP ψ 25 51 0) 25 44 (uV T s)) 25 51 x 25 42 = nI s := fun x => (uP_k (by decide)).trans ((uP_k (by decide)).trans tt1.2.2.1)
    refine w_aload_n dX11_value_20 rfl rfl ?_
    refine u_get (k := 44) (by decide) q3 dX11_value_21 fX11_232 ?_
    refine w_iload_n dX11_value_24 rfl rfl ?_
    refine w_icmp_lt (tgt := 36) dX11_value_25 (by decide) (fun c_25 => ?_) (fun c_25 => ?_)
    · rw [un] at c_25
      refine w_aload_n dX11_value_36 rfl rfl ?_
      refine w_iconst dX11_value_37 (v := 2) (by decide) ?_
      refine w_aload_n dX11_value_38 rfl rfl ?_
      refine u_get (k := 42) (by decide) q3 dX11_value_39 fX11_211 ?_
      refine w_v2 (d2 := 0) (L2 := 0) dX11_value_42 vX11_258 rfl (q3.1.lt (by decide)) rfl rfl (by decide) (Nat.le_of_ble_eq_true rfl) (by decide) (by decide) ?_
      rw [ut]
      refine T_wrong f3 q3 (fun h4 f4 q4 => ?_)
      · refine k_i rfl ?_
        refine w_if_eq (tgt := 52) dX11_value_45 (by decide) (fun c_45 => ?_) (fun c_45 => absurd c_45 (by decide))
        refine w_iconst dX11_value_52 (v := 0) (by decide) ?_
        refine w_iret dX11_value_53 (fun _ e => by cases e; decide) ?_
        exact rf1 (kF 2 (by unfold vlS; rw [if_pos d2, if_pos c_25])) (ua.p (Or.inr rfl)).ub _ f4 q4
    · rw [un] at c_25
      refine w_aload_n dX11_value_28 rfl rfl ?_
      refine u_get (k := 44) (by decide) q3 dX11_value_29 fX11_232 ?_
      refine w_iload_n dX11_value_32 rfl rfl ?_
      refine w_icmp_le (tgt := 48) dX11_value_33 (by decide) (fun c_33 => ?_) (fun c_33 => ?_)
      · rw [un] at c_33
        refine w_iconst dX11_value_48 (v := 1) (by decide) ?_
        refine w_goto (tgt := 53) dX11_value_49 (by decide) ?_
        refine w_iret dX11_value_53 (fun _ e => by cases e; decide) ?_
        exact kG (uV T s) (by unfold vlS; rw [if_pos d2, if_neg c_25, if_neg (Int32.not_lt.mpr c_33)]) _ _ f3 q3 (ua.p (Or.inr rfl)) ((uP_k (by decide)).trans ((uP_k (by decide)).trans tt1.1)) (fun _ => uP_s.trans uP_s)
      · rw [un] at c_33
        refine w_aload_n dX11_value_36 rfl rfl ?_
        refine w_iconst dX11_value_37 (v := 2) (by decide) ?_
        refine w_aload_n dX11_value_38 rfl rfl ?_
        refine u_get (k := 42) (by decide) q3 dX11_value_39 fX11_211 ?_
        refine w_v2 (d2 := 0) (L2 := 0) dX11_value_42 vX11_258 rfl (q3.1.lt (by decide)) rfl rfl (by decide) (Nat.le_of_ble_eq_true rfl) (by decide) (by decide) ?_
        rw [ut]
        refine T_wrong f3 q3 (fun h5 f5 q5 => ?_)
        · refine k_i rfl ?_
          refine w_if_eq (tgt := 52) dX11_value_45 (by decide) (fun c_45 => ?_) (fun c_45 => absurd c_45 (by decide))
          refine w_iconst dX11_value_52 (v := 0) (by decide) ?_
          refine w_iret dX11_value_53 (fun _ e => by cases e; decide) ?_
          exact rf1 (kF 2 (by unfold vlS; rw [if_pos d2, if_neg c_25, if_pos (Int32.not_le.mp c_33)])) (ua.p (Or.inr rfl)).ub _ f5 q5

