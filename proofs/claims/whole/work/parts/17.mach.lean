/-! THE CLASS: the machine's methods -/
theorem in7 (x : Int32) : vp_in (x &&& 7) 12 := by
  have h := pk_andIn x (m := 7) 3 (by decide) (by decide)
  exact fun z => h (z.imp id (fun y => Nat.le_trans (by decide) y))
theorem kb_z {h : PH} {σ : MS} (q : RC h σ) : hI h 18 2 = 0 ↔ σ.2.2.1 = [] := by
  obtain ⟨f, hf, ea, eb, hl, hv⟩ := q.2.2.1
  rw [eb, ← nI_0, nI_eq (by omega) (by decide)]
  exact List.length_eq_zero_iff
def sgn (w : Int32) : Int32 := if w = 0 then 2 else if 32768 ≤ w then 4 else 1
def setS (σ : MS) (dd v : Int32) : MS := sG (sG σ dd.toNatClampNeg (v &&& 65535)) 9 ((sG σ dd.toNatClampNeg (v &&& 65535)).1 9 &&& (-8) ||| sgn (v &&& 65535))
def secS (σ : MS) (w : Int32) : Int32 := if w &&& 32 = 0 then σ.1 (w &&& 7).toNatClampNeg else sgS w 5
noncomputable def recS (σ : MS) (dd p : Int32) : MS := if σ.1 20 = -1 then (if (fetS σ p).1 20 = -1 then setS (fetS σ p) dd (fetV σ p) else fetS σ p) else σ
noncomputable def givS (σ : MS) (p v : Int32) : MS := if σ.1 20 = -1 then putS σ p v else σ
def calS (σ : MS) (w a : Int32) : MS := sG (sG σ 8 (if w &&& 2048 = 0 then a else (σ.1 8 + sgS w 11) &&& 65535)) 7 (σ.1 8)
noncomputable def com1 (σ : MS) : MS := sG (fetS σ (σ.1 6)) 8 (fetV σ (σ.1 6))
noncomputable def com2 (σ : MS) : MS := sG (fetS σ ((σ.1 6 + 1) &&& 65535)) 9 (fetV σ ((σ.1 6 + 1) &&& 65535) &&& 34567)
def com3 (σ : MS) : MS := sG σ 6 ((σ.1 6 + 2) &&& 65535)
def com4 (σ : MS) : MS := sG (sG σ 10 (σ.1 6)) 6 ((sG σ 10 (σ.1 6)).1 11)
noncomputable def comS (σ : MS) : MS := if σ.1 9 &&& 32768 = 0 then (if (com3 (com2 (com1 σ))).1 9 &&& 32768 = 0 then com3 (com2 (com1 σ)) else com4 (com3 (com2 (com1 σ)))) else sG σ 20 0
def tkS (σ : MS) (sh : Int32) : MS := if σ.2.2.1 = [] then sG (sG σ 8 ((σ.1 8 - 1) &&& 65535)) 12 2 else if sh = 0 then sK (sG σ 0 (daS σ)) σ.2.2.1.tail else sP (sK (sG σ 0 (daS σ)) σ.2.2.1.tail) ((sK (sG σ 0 (daS σ)) σ.2.2.1.tail).1 0)
noncomputable def ent1 (σ : MS) (b : Int32) : MS := sG (sG σ 9 (b &&& (-32769))) 6 (((sG σ 9 (b &&& (-32769))).1 6 - 1) &&& 65535)
noncomputable def ent2 (σ : MS) (b : Int32) : MS := sG (putS σ (σ.1 6) b) 6 (((putS σ (σ.1 6) b).1 6 - 1) &&& 65535)
noncomputable def ent3 (σ : MS) : MS := putS σ (σ.1 6) (σ.1 8)
noncomputable def entT (σ : MS) (b vec : Int32) : MS := sG (ent3 (ent2 (ent1 σ b) b)) 8 ((ent3 (ent2 (ent1 σ b) b)).2.1 (ix vec))
/-- TO GO IN, and on -/
noncomputable def entS (σ : MS) (vec : Int32) : MS := if σ.1 9 &&& 32768 = 0 then entT σ (σ.1 9) vec else entT (sG (sG σ 11 (σ.1 6)) 6 ((sG σ 11 (σ.1 6)).1 10)) (σ.1 9) vec
set_option maxRecDepth 20000 in
set_option maxHeartbeats 4000000 in
/-- settle(d, v) -/
theorem T_settle {X : Nat × (Nat → Int32)} {h0 h : PH} {σ : MS} {Q : Option Value → PH → Prop} {dd v : Int32} (hdd : vp_in dd 12) (f : Fm h0 h) (q : RC h σ) (k : ∀ h', Fm h0 h' → RC h' (setS σ dd v) → Q none h') : WP X mX3_settle 0 0 0 (en 5 [.ref 13, .int dd, .int v]) [] h Q := by
  refine w_iload_n dX3_settle_0 rfl rfl ?_
  refine w_ldc dX3_settle_1 kX3_66 ?_
  refine w_iand dX3_settle_3 ?_
  refine w_istore_n dX3_settle_4 rfl (by decide) ?_
  refine w_aload_n dX3_settle_5 rfl rfl ?_
  refine w_gs (b := 14) q.1 dX3_settle_6 fX3_9 (by decide) rfl rfl (by decide) ?_
  refine w_iload_n dX3_settle_9 rfl rfl ?_
  refine w_iload_n dX3_settle_10 rfl rfl ?_
  refine r_put f q dX3_settle_11 rfl hdd (fun h1 f1 q1 => ?_)
  refine w_iload_n dX3_settle_12 rfl rfl ?_
  refine w_if_ne (tgt := 20) dX3_settle_13 (by decide) (fun c_13 => ?_) (fun c_13 => ?_)
  · refine w_iload_n dX3_settle_20 rfl rfl ?_
    refine w_ldc dX3_settle_21 kX3_118 ?_
    refine w_icmp_ge (tgt := 30) dX3_settle_23 (by decide) (fun c_23 => ?_) (fun c_23 => ?_)
    · refine w_iconst dX3_settle_30 (v := 4) (by decide) ?_
      refine w_istore dX3_settle_31 (by decide) ?_
      refine w_aload_n dX3_settle_33 rfl rfl ?_
      refine w_gs (b := 14) q1.1 dX3_settle_34 fX3_9 (by decide) rfl rfl (by decide) ?_
      refine w_bipush dX3_settle_37 (v := 9) (by decide) ?_
      refine w_aload_n dX3_settle_39 rfl rfl ?_
      refine w_gs (b := 14) q1.1 dX3_settle_40 fX3_9 (by decide) rfl rfl (by decide) ?_
      refine w_bipush dX3_settle_43 (v := 9) (by decide) ?_
      refine r_get (k := 9) q1 dX3_settle_45 (by decide) (vin (by decide)) ?_
      refine w_bipush dX3_settle_46 (v := (-8)) (by decide) ?_
      refine w_iand dX3_settle_48 ?_
      refine w_iload dX3_settle_49 rfl ?_
      refine w_ior dX3_settle_51 ?_
      refine r_put (k := 9) f1 q1 dX3_settle_52 (by decide) (vin (by decide)) (fun h2 f2 q2 => ?_)
      refine w_vret dX3_settle_53 ?_
      rw [setS, show sgn (v &&& 65535) = 4 from by unfold sgn; rw [if_neg c_13, if_pos c_23]] at k; exact k _ f2 q2
    · refine w_iconst dX3_settle_26 (v := 1) (by decide) ?_
      refine w_goto (tgt := 31) dX3_settle_27 (by decide) ?_
      refine w_istore dX3_settle_31 (by decide) ?_
      refine w_aload_n dX3_settle_33 rfl rfl ?_
      refine w_gs (b := 14) q1.1 dX3_settle_34 fX3_9 (by decide) rfl rfl (by decide) ?_
      refine w_bipush dX3_settle_37 (v := 9) (by decide) ?_
      refine w_aload_n dX3_settle_39 rfl rfl ?_
      refine w_gs (b := 14) q1.1 dX3_settle_40 fX3_9 (by decide) rfl rfl (by decide) ?_
      refine w_bipush dX3_settle_43 (v := 9) (by decide) ?_
      refine r_get (k := 9) q1 dX3_settle_45 (by decide) (vin (by decide)) ?_
      refine w_bipush dX3_settle_46 (v := (-8)) (by decide) ?_
      refine w_iand dX3_settle_48 ?_
      refine w_iload dX3_settle_49 rfl ?_
      refine w_ior dX3_settle_51 ?_
      refine r_put (k := 9) f1 q1 dX3_settle_52 (by decide) (vin (by decide)) (fun h3 f3 q3 => ?_)
      refine w_vret dX3_settle_53 ?_
      rw [setS, show sgn (v &&& 65535) = 1 from by unfold sgn; rw [if_neg c_13, if_neg c_23]] at k; exact k _ f3 q3
  · refine w_iconst dX3_settle_16 (v := 2) (by decide) ?_
    refine w_goto (tgt := 31) dX3_settle_17 (by decide) ?_
    refine w_istore dX3_settle_31 (by decide) ?_
    refine w_aload_n dX3_settle_33 rfl rfl ?_
    refine w_gs (b := 14) q1.1 dX3_settle_34 fX3_9 (by decide) rfl rfl (by decide) ?_
    refine w_bipush dX3_settle_37 (v := 9) (by decide) ?_
    refine w_aload_n dX3_settle_39 rfl rfl ?_
    refine w_gs (b := 14) q1.1 dX3_settle_40 fX3_9 (by decide) rfl rfl (by decide) ?_
    refine w_bipush dX3_settle_43 (v := 9) (by decide) ?_
    refine r_get (k := 9) q1 dX3_settle_45 (by decide) (vin (by decide)) ?_
    refine w_bipush dX3_settle_46 (v := (-8)) (by decide) ?_
    refine w_iand dX3_settle_48 ?_
    refine w_iload dX3_settle_49 rfl ?_
    refine w_ior dX3_settle_51 ?_
    refine r_put (k := 9) f1 q1 dX3_settle_52 (by decide) (vin (by decide)) (fun h4 f4 q4 => ?_)
    refine w_vret dX3_settle_53 ?_
    rw [setS, show sgn (v &&& 65535) = 2 from by unfold sgn; rw [if_pos c_13]] at k; exact k _ f4 q4

set_option maxRecDepth 20000 in
set_option maxHeartbeats 4000000 in
/-- second(word) -/
theorem T_second {X : Nat × (Nat → Int32)} {h : PH} {σ : MS} {Q : Option Value → PH → Prop} {w : Int32} (q : RC h σ) (k : Q (some (.int (secS σ w))) h) : WP X mX3_second 1 22 0 (en 2 [.ref 13, .int w]) [] h Q := by
  refine w_iload_n dX3_second_0 rfl rfl ?_
  refine w_bipush dX3_second_1 (v := 32) (by decide) ?_
  refine w_iand dX3_second_3 ?_
  refine w_if_eq (tgt := 15) dX3_second_4 (by decide) (fun c_4 => ?_) (fun c_4 => ?_)
  · refine w_aload_n dX3_second_15 rfl rfl ?_
    refine w_gs (b := 14) q.1 dX3_second_16 fX3_9 (by decide) rfl rfl (by decide) ?_
    refine w_iload_n dX3_second_19 rfl rfl ?_
    refine w_bipush dX3_second_20 (v := 7) (by decide) ?_
    refine w_iand dX3_second_22 ?_
    refine r_get q dX3_second_23 rfl (in7 w) ?_
    refine w_iret dX3_second_24 (fun _ e => by cases e; rfl) ?_
    rw [secS, if_pos c_4] at k; exact k
  · refine w_iload_n dX3_second_7 rfl rfl ?_
    refine w_iconst dX3_second_8 (v := 5) (by decide) ?_
    refine w_s2 (d2 := 0) (L2 := 0) dX3_second_9 vX3_93 rfl rfl (by decide) (Nat.le_of_ble_eq_true rfl) (by decide) (by decide) ?_
    refine T_sg ?_
    refine k_i rfl ?_
    refine w_goto (tgt := 24) dX3_second_12 (by decide) ?_
    refine w_iret dX3_second_24 (fun _ e => by cases e; rfl) ?_
    rw [secS, if_neg c_4] at k; exact k

set_option maxRecDepth 20000 in
set_option maxHeartbeats 4000000 in
/-- receive(d, place) -/
theorem T_receive {X : Nat × (Nat → Int32)} {h0 h : PH} {σ : MS} {Q : Option Value → PH → Prop} {dd p : Int32} (hdd : vp_in dd 12) (f : Fm h0 h) (q : RC h σ) (k : ∀ h', Fm h0 h' → RC h' (recS σ dd p) → Q none h') : WP X mX3_receive 3 65 0 (en 4 [.ref 13, .int dd, .int p]) [] h Q := by
  refine w_aload_n dX3_receive_0 rfl rfl ?_
  refine x_get q.1 dX3_receive_1 fX3_43 (rcR q) rfl rfl (by decide) ?_
  refine w_iconst dX3_receive_4 (v := (-1)) (by decide) ?_
  refine w_icmp_ne (tgt := 16) dX3_receive_5 (by decide) (fun c_5 => ?_) (fun c_5 => ?_)
  · refine w_iconst dX3_receive_16 (v := 0) (by decide) ?_
    refine w_istore_n dX3_receive_17 rfl (by decide) ?_
    refine w_aload_n dX3_receive_18 rfl rfl ?_
    refine x_get q.1 dX3_receive_19 fX3_43 (rcR q) rfl rfl (by decide) ?_
    refine w_iconst dX3_receive_22 (v := (-1)) (by decide) ?_
    refine w_icmp_ne (tgt := 32) dX3_receive_23 (by decide) (fun c_23 => ?_) (fun c_23 => absurd c_23 c_5)
    refine w_vret dX3_receive_32 ?_
    rw [recS, if_neg c_5] at k; exact k _ f q
  · refine w_aload_n dX3_receive_8 rfl rfl ?_
    refine w_iload_n dX3_receive_9 rfl rfl ?_
    refine w_v1 (d2 := 2) (L2 := 43) dX3_receive_10 vX3_86 rfl (q.1.lt (by decide)) rfl (by decide) (Nat.le_of_ble_eq_true rfl) (by decide) (by decide) ?_
    refine T_fetch f q (fun h1 f1 q1 => ?_)
    refine k_i rfl ?_
    refine w_goto (tgt := 17) dX3_receive_13 (by decide) ?_
    refine w_istore_n dX3_receive_17 rfl (by decide) ?_
    refine w_aload_n dX3_receive_18 rfl rfl ?_
    refine x_get q1.1 dX3_receive_19 fX3_43 (rcR q1) rfl rfl (by decide) ?_
    refine w_iconst dX3_receive_22 (v := (-1)) (by decide) ?_
    refine w_icmp_ne (tgt := 32) dX3_receive_23 (by decide) (fun c_23 => ?_) (fun c_23 => ?_)
    · refine w_vret dX3_receive_32 ?_
      rw [recS, if_pos c_5, if_neg c_23] at k; exact k _ f1 q1
    · refine w_aload_n dX3_receive_26 rfl rfl ?_
      refine w_iload_n dX3_receive_27 rfl rfl ?_
      refine w_iload_n dX3_receive_28 rfl rfl ?_
      refine w_v2 (d2 := 0) (L2 := 0) dX3_receive_29 vX3_100 rfl (q1.1.lt (by decide)) rfl rfl (by decide) (Nat.le_of_ble_eq_true rfl) (by decide) (by decide) ?_
      refine T_settle hdd f1 q1 (fun h2 f2 q2 => ?_)
      refine k_v rfl ?_
      refine w_vret dX3_receive_32 ?_
      rw [recS, if_pos c_5, if_pos c_23] at k; exact k _ f2 q2

set_option maxRecDepth 20000 in
set_option maxHeartbeats 4000000 in
/-- give(place, v) -/
theorem T_give {X : Nat × (Nat → Int32)} {h0 h : PH} {σ : MS} {Q : Option Value → PH → Prop} {p v : Int32} (f : Fm h0 h) (q : RC h σ) (k : ∀ h', Fm h0 h' → RC h' (givS σ p v) → Q none h') : WP X mX3_give 2 45 0 (en 3 [.ref 13, .int p, .int v]) [] h Q := by
  refine w_aload_n dX3_give_0 rfl rfl ?_
  refine x_get q.1 dX3_give_1 fX3_43 (rcR q) rfl rfl (by decide) ?_
  refine w_iconst dX3_give_4 (v := (-1)) (by decide) ?_
  refine w_icmp_ne (tgt := 14) dX3_give_5 (by decide) (fun c_5 => ?_) (fun c_5 => ?_)
  · refine w_vret dX3_give_14 ?_
    rw [givS, if_neg c_5] at k; exact k _ f q
  · refine w_aload_n dX3_give_8 rfl rfl ?_
    refine w_iload_n dX3_give_9 rfl rfl ?_
    refine w_iload_n dX3_give_10 rfl rfl ?_
    refine w_v2 (d2 := 1) (L2 := 23) dX3_give_11 vX3_119 rfl (q.1.lt (by decide)) rfl rfl (by decide) (Nat.le_of_ble_eq_true rfl) (by decide) (by decide) ?_
    refine T_put f q (fun h1 f1 q1 => ?_)
    refine k_v rfl ?_
    refine w_vret dX3_give_14 ?_
    rw [givS, if_pos c_5] at k; exact k _ f1 q1

set_option maxRecDepth 20000 in
set_option maxHeartbeats 4000000 in
/-- callAway(word, a) -/
theorem T_callAway {X : Nat × (Nat → Int32)} {h0 h : PH} {σ : MS} {Q : Option Value → PH → Prop} {w a : Int32} (f : Fm h0 h) (q : RC h σ) (k : ∀ h', Fm h0 h' → RC h' (calS σ w a) → Q none h') : WP X mX3_callAway 1 22 0 (en 4 [.ref 13, .int w, .int a]) [] h Q := by
  refine w_aload_n dX3_callAway_0 rfl rfl ?_
  refine w_gs (b := 14) q.1 dX3_callAway_1 fX3_9 (by decide) rfl rfl (by decide) ?_
  refine w_bipush dX3_callAway_4 (v := 8) (by decide) ?_
  refine r_get (k := 8) q dX3_callAway_6 (by decide) (vin (by decide)) ?_
  refine w_istore_n dX3_callAway_7 rfl (by decide) ?_
  refine w_aload_n dX3_callAway_8 rfl rfl ?_
  refine w_gs (b := 14) q.1 dX3_callAway_9 fX3_9 (by decide) rfl rfl (by decide) ?_
  refine w_bipush dX3_callAway_12 (v := 8) (by decide) ?_
  refine w_iload_n dX3_callAway_14 rfl rfl ?_
  refine w_sipush dX3_callAway_15 (v := 2048) (by decide) ?_
  refine w_iand dX3_callAway_18 ?_
  refine w_if_eq (tgt := 36) dX3_callAway_19 (by decide) (fun c_19 => ?_) (fun c_19 => ?_)
  · refine w_iload_n dX3_callAway_36 rfl rfl ?_
    refine r_put (k := 8) f q dX3_callAway_37 (by decide) (vin (by decide)) (fun h1 f1 q1 => ?_)
    refine w_aload_n dX3_callAway_38 rfl rfl ?_
    refine w_gs (b := 14) q1.1 dX3_callAway_39 fX3_9 (by decide) rfl rfl (by decide) ?_
    refine w_bipush dX3_callAway_42 (v := 7) (by decide) ?_
    refine w_iload_n dX3_callAway_44 rfl rfl ?_
    refine r_put (k := 7) f1 q1 dX3_callAway_45 (by decide) (vin (by decide)) (fun h2 f2 q2 => ?_)
    refine w_vret dX3_callAway_46 ?_
    rw [calS, if_pos c_19] at k; exact k _ f2 q2
  · refine w_iload_n dX3_callAway_22 rfl rfl ?_
    refine w_iload_n dX3_callAway_23 rfl rfl ?_
    refine w_bipush dX3_callAway_24 (v := 11) (by decide) ?_
    refine w_s2 (d2 := 0) (L2 := 0) dX3_callAway_26 vX3_93 rfl rfl (by decide) (Nat.le_of_ble_eq_true rfl) (by decide) (by decide) ?_
    refine T_sg ?_
    refine k_i rfl ?_
    refine w_iadd dX3_callAway_29 ?_
    refine w_ldc dX3_callAway_30 kX3_66 ?_
    refine w_iand dX3_callAway_32 ?_
    refine w_goto (tgt := 37) dX3_callAway_33 (by decide) ?_
    refine r_put (k := 8) f q dX3_callAway_37 (by decide) (vin (by decide)) (fun h3 f3 q3 => ?_)
    refine w_aload_n dX3_callAway_38 rfl rfl ?_
    refine w_gs (b := 14) q3.1 dX3_callAway_39 fX3_9 (by decide) rfl rfl (by decide) ?_
    refine w_bipush dX3_callAway_42 (v := 7) (by decide) ?_
    refine w_iload_n dX3_callAway_44 rfl rfl ?_
    refine r_put (k := 7) f3 q3 dX3_callAway_45 (by decide) (vin (by decide)) (fun h4 f4 q4 => ?_)
    refine w_vret dX3_callAway_46 ?_
    rw [calS, if_neg c_19] at k; exact k _ f4 q4

set_option maxRecDepth 20000 in
set_option maxHeartbeats 4000000 in
/-- comeBack() -/
theorem T_comeBack {X : Nat × (Nat → Int32)} {h0 h : PH} {σ : MS} {Q : Option Value → PH → Prop} (f : Fm h0 h) (q : RC h σ) (k : ∀ h', Fm h0 h' → RC h' (comS σ) → Q none h') : WP X mX3_comeBack 3 65 0 (en 1 [.ref 13]) [] h Q := by
  refine w_aload_n dX3_comeBack_0 rfl rfl ?_
  refine w_gs (b := 14) q.1 dX3_comeBack_1 fX3_9 (by decide) rfl rfl (by decide) ?_
  refine w_bipush dX3_comeBack_4 (v := 9) (by decide) ?_
  refine r_get (k := 9) q dX3_comeBack_6 (by decide) (vin (by decide)) ?_
  refine w_ldc dX3_comeBack_7 kX3_118 ?_
  refine w_iand dX3_comeBack_9 ?_
  refine w_if_eq (tgt := 19) dX3_comeBack_10 (by decide) (fun c_10 => ?_) (fun c_10 => ?_)
  · refine w_aload_n dX3_comeBack_19 rfl rfl ?_
    refine w_gs (b := 14) q.1 dX3_comeBack_20 fX3_9 (by decide) rfl rfl (by decide) ?_
    refine w_bipush dX3_comeBack_23 (v := 8) (by decide) ?_
    refine w_aload_n dX3_comeBack_25 rfl rfl ?_
    refine w_aload_n dX3_comeBack_26 rfl rfl ?_
    refine w_gs (b := 14) q.1 dX3_comeBack_27 fX3_9 (by decide) rfl rfl (by decide) ?_
    refine w_bipush dX3_comeBack_30 (v := 6) (by decide) ?_
    refine r_get (k := 6) q dX3_comeBack_32 (by decide) (vin (by decide)) ?_
    refine w_v1 (d2 := 2) (L2 := 43) dX3_comeBack_33 vX3_86 rfl (q.1.lt (by decide)) rfl (by decide) (Nat.le_of_ble_eq_true rfl) (by decide) (by decide) ?_
    refine T_fetch f q (fun h1 f1 q1 => ?_)
    refine k_i rfl ?_
    refine r_put (k := 8) f1 q1 dX3_comeBack_36 (by decide) (vin (by decide)) (fun h2 f2 q2 => ?_)
    refine w_aload_n dX3_comeBack_37 rfl rfl ?_
    refine w_gs (b := 14) q2.1 dX3_comeBack_38 fX3_9 (by decide) rfl rfl (by decide) ?_
    refine w_bipush dX3_comeBack_41 (v := 9) (by decide) ?_
    refine w_aload_n dX3_comeBack_43 rfl rfl ?_
    refine w_aload_n dX3_comeBack_44 rfl rfl ?_
    refine w_gs (b := 14) q2.1 dX3_comeBack_45 fX3_9 (by decide) rfl rfl (by decide) ?_
    refine w_bipush dX3_comeBack_48 (v := 6) (by decide) ?_
    refine r_get (k := 6) q2 dX3_comeBack_50 (by decide) (vin (by decide)) ?_
    refine w_iconst dX3_comeBack_51 (v := 1) (by decide) ?_
    refine w_iadd dX3_comeBack_52 ?_
    refine w_ldc dX3_comeBack_53 kX3_66 ?_
    refine w_iand dX3_comeBack_55 ?_
    refine w_v1 (d2 := 2) (L2 := 43) dX3_comeBack_56 vX3_86 rfl (q2.1.lt (by decide)) rfl (by decide) (Nat.le_of_ble_eq_true rfl) (by decide) (by decide) ?_
    refine T_fetch f2 q2 (fun h3 f3 q3 => ?_)
    refine k_i rfl ?_
    refine w_ldc dX3_comeBack_59 kX3_122 ?_
    refine w_iand dX3_comeBack_61 ?_
    refine r_put (k := 9) f3 q3 dX3_comeBack_62 (by decide) (vin (by decide)) (fun h4 f4 q4 => ?_)
    refine w_aload_n dX3_comeBack_63 rfl rfl ?_
    refine w_gs (b := 14) q4.1 dX3_comeBack_64 fX3_9 (by decide) rfl rfl (by decide) ?_
    refine w_bipush dX3_comeBack_67 (v := 6) (by decide) ?_
    refine w_aload_n dX3_comeBack_69 rfl rfl ?_
    refine w_gs (b := 14) q4.1 dX3_comeBack_70 fX3_9 (by decide) rfl rfl (by decide) ?_
    refine w_bipush dX3_comeBack_73 (v := 6) (by decide) ?_
    refine r_get (k := 6) q4 dX3_comeBack_75 (by decide) (vin (by decide)) ?_
    refine w_iconst dX3_comeBack_76 (v := 2) (by decide) ?_
    refine w_iadd dX3_comeBack_77 ?_
    refine w_ldc dX3_comeBack_78 kX3_66 ?_
    refine w_iand dX3_comeBack_80 ?_
    refine r_put (k := 6) f4 q4 dX3_comeBack_81 (by decide) (vin (by decide)) (fun h5 f5 q5 => ?_)
    refine w_aload_n dX3_comeBack_82 rfl rfl ?_
    refine w_gs (b := 14) q5.1 dX3_comeBack_83 fX3_9 (by decide) rfl rfl (by decide) ?_
    refine w_bipush dX3_comeBack_86 (v := 9) (by decide) ?_
    refine r_get (k := 9) q5 dX3_comeBack_88 (by decide) (vin (by decide)) ?_
    refine w_ldc dX3_comeBack_89 kX3_118 ?_
    refine w_iand dX3_comeBack_91 ?_
    refine w_if_eq (tgt := 123) dX3_comeBack_92 (by decide) (fun c_92 => ?_) (fun c_92 => ?_)
    · refine w_vret dX3_comeBack_123 ?_
      rw [comS, if_pos c_10, if_pos (show (com3 (com2 (com1 σ))).1 9 &&& 32768 = 0 from c_92)] at k; exact k _ f5 q5
    · refine w_aload_n dX3_comeBack_95 rfl rfl ?_
      refine w_gs (b := 14) q5.1 dX3_comeBack_96 fX3_9 (by decide) rfl rfl (by decide) ?_
      refine w_bipush dX3_comeBack_99 (v := 10) (by decide) ?_
      refine w_aload_n dX3_comeBack_101 rfl rfl ?_
      refine w_gs (b := 14) q5.1 dX3_comeBack_102 fX3_9 (by decide) rfl rfl (by decide) ?_
      refine w_bipush dX3_comeBack_105 (v := 6) (by decide) ?_
      refine r_get (k := 6) q5 dX3_comeBack_107 (by decide) (vin (by decide)) ?_
      refine r_put (k := 10) f5 q5 dX3_comeBack_108 (by decide) (vin (by decide)) (fun h6 f6 q6 => ?_)
      refine w_aload_n dX3_comeBack_109 rfl rfl ?_
      refine w_gs (b := 14) q6.1 dX3_comeBack_110 fX3_9 (by decide) rfl rfl (by decide) ?_
      refine w_bipush dX3_comeBack_113 (v := 6) (by decide) ?_
      refine w_aload_n dX3_comeBack_115 rfl rfl ?_
      refine w_gs (b := 14) q6.1 dX3_comeBack_116 fX3_9 (by decide) rfl rfl (by decide) ?_
      refine w_bipush dX3_comeBack_119 (v := 11) (by decide) ?_
      refine r_get (k := 11) q6 dX3_comeBack_121 (by decide) (vin (by decide)) ?_
      refine r_put (k := 6) f6 q6 dX3_comeBack_122 (by decide) (vin (by decide)) (fun h7 f7 q7 => ?_)
      refine w_vret dX3_comeBack_123 ?_
      rw [comS, if_pos c_10, if_neg (show ¬ (com3 (com2 (com1 σ))).1 9 &&& 32768 = 0 from c_92)] at k; exact k _ f7 q7
  · refine w_aload_n dX3_comeBack_13 rfl rfl ?_
    refine w_iconst dX3_comeBack_14 (v := 0) (by decide) ?_
    refine x_put f q dX3_comeBack_15 fX3_43 (RC.raise q) rfl rfl (by decide) (fun h8 f8 q8 => ?_)
    refine w_vret dX3_comeBack_18 ?_
    rw [comS, if_neg c_10] at k; exact k _ f8 q8

set_option maxRecDepth 20000 in
set_option maxHeartbeats 4000000 in
/-- takeKey(shown) -/
theorem T_takeKey {X : Nat × (Nat → Int32)} {h0 h : PH} {σ : MS} {Q : Option Value → PH → Prop} {sh : Int32} (f : Fm h0 h) (q : RC h σ) (k : ∀ h', Fm h0 h' → RC h' (tkS σ sh) → Q none h') : WP X mX3_takeKey 1 21 0 (en 2 [.ref 13, .int sh]) [] h Q := by
  refine w_aload_n dX3_takeKey_0 rfl rfl ?_
  refine w_gs (b := 18) q.1 dX3_takeKey_1 fX3_28 (by decide) rfl rfl (by decide) ?_
  refine w_gi q.1 dX3_takeKey_4 fX3_135 rfl rfl (by decide) ?_
  refine w_if_ne (tgt := 35) dX3_takeKey_7 (by decide) (fun c_7 => ?_) (fun c_7 => ?_)
  · refine w_aload_n dX3_takeKey_35 rfl rfl ?_
    refine w_gs (b := 14) q.1 dX3_takeKey_36 fX3_9 (by decide) rfl rfl (by decide) ?_
    refine w_iconst dX3_takeKey_39 (v := 0) (by decide) ?_
    refine w_aload_n dX3_takeKey_40 rfl rfl ?_
    refine w_gs (b := 18) q.1 dX3_takeKey_41 fX3_28 (by decide) rfl rfl (by decide) ?_
    refine w_v0 (d2 := 0) (L2 := 0) dX3_takeKey_44 vX3_138 rfl (q.1.lt (by decide)) (by decide) (Nat.le_of_ble_eq_true rfl) (by decide) (by decide) ?_
    refine T_data q ?_
    refine k_i rfl ?_
    refine r_put (k := 0) f q dX3_takeKey_47 (by decide) (vin (by decide)) (fun h1 f1 q1 => ?_)
    refine w_aload_n dX3_takeKey_48 rfl rfl ?_
    refine w_gs (b := 18) q1.1 dX3_takeKey_49 fX3_28 (by decide) rfl rfl (by decide) ?_
    refine w_v0 (d2 := 0) (L2 := 0) dX3_takeKey_52 vX3_141 rfl (q1.1.lt (by decide)) (by decide) (Nat.le_of_ble_eq_true rfl) (by decide) (by decide) ?_
    refine T_drop2 f1 q1 (fun h2 f2 q2 => ?_)
    refine k_v rfl ?_
    refine w_iload_n dX3_takeKey_55 rfl rfl ?_
    refine w_if_eq (tgt := 72) dX3_takeKey_56 (by decide) (fun c_56 => ?_) (fun c_56 => ?_)
    · refine w_vret dX3_takeKey_72 ?_
      rw [kb_z q] at c_7; rw [tkS, if_neg c_7, if_pos c_56] at k; exact k _ f2 q2
    · refine w_aload_n dX3_takeKey_59 rfl rfl ?_
      refine w_gs (b := 20) q2.1 dX3_takeKey_60 fX3_35 (by decide) rfl rfl (by decide) ?_
      refine w_aload_n dX3_takeKey_63 rfl rfl ?_
      refine w_gs (b := 14) q2.1 dX3_takeKey_64 fX3_9 (by decide) rfl rfl (by decide) ?_
      refine w_iconst dX3_takeKey_67 (v := 0) (by decide) ?_
      refine r_get (k := 0) q2 dX3_takeKey_68 (by decide) (vin (by decide)) ?_
      refine w_v1 (d2 := 0) (L2 := 0) dX3_takeKey_69 vX3_130 rfl (q2.1.lt (by decide)) rfl (by decide) (Nat.le_of_ble_eq_true rfl) (by decide) (by decide) ?_
      refine T_padd2 f2 q2 (fun h3 f3 q3 => ?_)
      refine k_v rfl ?_
      refine w_vret dX3_takeKey_72 ?_
      rw [kb_z q] at c_7; rw [tkS, if_neg c_7, if_neg c_56] at k; exact k _ f3 q3
  · refine w_aload_n dX3_takeKey_10 rfl rfl ?_
    refine w_gs (b := 14) q.1 dX3_takeKey_11 fX3_9 (by decide) rfl rfl (by decide) ?_
    refine w_bipush dX3_takeKey_14 (v := 8) (by decide) ?_
    refine w_aload_n dX3_takeKey_16 rfl rfl ?_
    refine w_gs (b := 14) q.1 dX3_takeKey_17 fX3_9 (by decide) rfl rfl (by decide) ?_
    refine w_bipush dX3_takeKey_20 (v := 8) (by decide) ?_
    refine r_get (k := 8) q dX3_takeKey_22 (by decide) (vin (by decide)) ?_
    refine w_iconst dX3_takeKey_23 (v := 1) (by decide) ?_
    refine w_isub dX3_takeKey_24 ?_
    refine w_ldc dX3_takeKey_25 kX3_66 ?_
    refine w_iand dX3_takeKey_27 ?_
    refine r_put (k := 8) f q dX3_takeKey_28 (by decide) (vin (by decide)) (fun h4 f4 q4 => ?_)
    refine w_aload_n dX3_takeKey_29 rfl rfl ?_
    refine w_iconst dX3_takeKey_30 (v := 2) (by decide) ?_
    refine x_put f4 q4 dX3_takeKey_31 fX3_39 (RC.state q4) rfl rfl (by decide) (fun h5 f5 q5 => ?_)
    refine w_vret dX3_takeKey_34 ?_
    rw [kb_z q] at c_7; rw [tkS, if_pos c_7] at k; exact k _ f5 q5

set_option maxRecDepth 20000 in
set_option maxHeartbeats 4000000 in
/-- enter(vector) -/
theorem T_enter {X : Nat × (Nat → Int32)} {h0 h : PH} {σ : MS} {Q : Option Value → PH → Prop} {vec : Int32} (f : Fm h0 h) (q : RC h σ) (k : ∀ h', Fm h0 h' → RC h' (entS σ vec) → Q none h') : WP X mX3_enter 2 45 0 (en 3 [.ref 13, .int vec]) [] h Q := by
  refine w_aload_n dX3_enter_0 rfl rfl ?_
  refine w_gs (b := 14) q.1 dX3_enter_1 fX3_9 (by decide) rfl rfl (by decide) ?_
  refine w_bipush dX3_enter_4 (v := 9) (by decide) ?_
  refine r_get (k := 9) q dX3_enter_6 (by decide) (vin (by decide)) ?_
  refine w_istore_n dX3_enter_7 rfl (by decide) ?_
  refine w_iload_n dX3_enter_8 rfl rfl ?_
  refine w_ldc dX3_enter_9 kX3_118 ?_
  refine w_iand dX3_enter_11 ?_
  refine w_if_eq (tgt := 43) dX3_enter_12 (by decide) (fun c_12 => ?_) (fun c_12 => ?_)
  · refine w_aload_n dX3_enter_43 rfl rfl ?_
    refine w_gs (b := 14) q.1 dX3_enter_44 fX3_9 (by decide) rfl rfl (by decide) ?_
    refine w_bipush dX3_enter_47 (v := 9) (by decide) ?_
    refine w_iload_n dX3_enter_49 rfl rfl ?_
    refine w_ldc dX3_enter_50 kX3_147 ?_
    refine w_iand dX3_enter_52 ?_
    refine r_put (k := 9) f q dX3_enter_53 (by decide) (vin (by decide)) (fun h1 f1 q1 => ?_)
    refine w_aload_n dX3_enter_54 rfl rfl ?_
    refine w_gs (b := 14) q1.1 dX3_enter_55 fX3_9 (by decide) rfl rfl (by decide) ?_
    refine w_bipush dX3_enter_58 (v := 6) (by decide) ?_
    refine w_aload_n dX3_enter_60 rfl rfl ?_
    refine w_gs (b := 14) q1.1 dX3_enter_61 fX3_9 (by decide) rfl rfl (by decide) ?_
    refine w_bipush dX3_enter_64 (v := 6) (by decide) ?_
    refine r_get (k := 6) q1 dX3_enter_66 (by decide) (vin (by decide)) ?_
    refine w_iconst dX3_enter_67 (v := 1) (by decide) ?_
    refine w_isub dX3_enter_68 ?_
    refine w_ldc dX3_enter_69 kX3_66 ?_
    refine w_iand dX3_enter_71 ?_
    refine r_put (k := 6) f1 q1 dX3_enter_72 (by decide) (vin (by decide)) (fun h2 f2 q2 => ?_)
    refine w_aload_n dX3_enter_73 rfl rfl ?_
    refine w_aload_n dX3_enter_74 rfl rfl ?_
    refine w_gs (b := 14) q2.1 dX3_enter_75 fX3_9 (by decide) rfl rfl (by decide) ?_
    refine w_bipush dX3_enter_78 (v := 6) (by decide) ?_
    refine r_get (k := 6) q2 dX3_enter_80 (by decide) (vin (by decide)) ?_
    refine w_iload_n dX3_enter_81 rfl rfl ?_
    refine w_v2 (d2 := 1) (L2 := 23) dX3_enter_82 vX3_119 rfl (q2.1.lt (by decide)) rfl rfl (by decide) (Nat.le_of_ble_eq_true rfl) (by decide) (by decide) ?_
    refine T_put f2 q2 (fun h3 f3 q3 => ?_)
    refine k_v rfl ?_
    refine w_aload_n dX3_enter_85 rfl rfl ?_
    refine w_gs (b := 14) q3.1 dX3_enter_86 fX3_9 (by decide) rfl rfl (by decide) ?_
    refine w_bipush dX3_enter_89 (v := 6) (by decide) ?_
    refine w_aload_n dX3_enter_91 rfl rfl ?_
    refine w_gs (b := 14) q3.1 dX3_enter_92 fX3_9 (by decide) rfl rfl (by decide) ?_
    refine w_bipush dX3_enter_95 (v := 6) (by decide) ?_
    refine r_get (k := 6) q3 dX3_enter_97 (by decide) (vin (by decide)) ?_
    refine w_iconst dX3_enter_98 (v := 1) (by decide) ?_
    refine w_isub dX3_enter_99 ?_
    refine w_ldc dX3_enter_100 kX3_66 ?_
    refine w_iand dX3_enter_102 ?_
    refine r_put (k := 6) f3 q3 dX3_enter_103 (by decide) (vin (by decide)) (fun h4 f4 q4 => ?_)
    refine w_aload_n dX3_enter_104 rfl rfl ?_
    refine w_aload_n dX3_enter_105 rfl rfl ?_
    refine w_gs (b := 14) q4.1 dX3_enter_106 fX3_9 (by decide) rfl rfl (by decide) ?_
    refine w_bipush dX3_enter_109 (v := 6) (by decide) ?_
    refine r_get (k := 6) q4 dX3_enter_111 (by decide) (vin (by decide)) ?_
    refine w_aload_n dX3_enter_112 rfl rfl ?_
    refine w_gs (b := 14) q4.1 dX3_enter_113 fX3_9 (by decide) rfl rfl (by decide) ?_
    refine w_bipush dX3_enter_116 (v := 8) (by decide) ?_
    refine r_get (k := 8) q4 dX3_enter_118 (by decide) (vin (by decide)) ?_
    refine w_v2 (d2 := 1) (L2 := 23) dX3_enter_119 vX3_119 rfl (q4.1.lt (by decide)) rfl rfl (by decide) (Nat.le_of_ble_eq_true rfl) (by decide) (by decide) ?_
    refine T_put f4 q4 (fun h5 f5 q5 => ?_)
    refine k_v rfl ?_
    refine w_aload_n dX3_enter_122 rfl rfl ?_
    refine w_gs (b := 14) q5.1 dX3_enter_123 fX3_9 (by decide) rfl rfl (by decide) ?_
    refine w_bipush dX3_enter_126 (v := 8) (by decide) ?_
    refine w_aload_n dX3_enter_128 rfl rfl ?_
    refine w_gs (b := 16) q5.1 dX3_enter_129 fX3_21 (by decide) rfl rfl (by decide) ?_
    refine w_iload_n dX3_enter_132 rfl rfl ?_
    refine w_v1 (d2 := 0) (L2 := 0) dX3_enter_133 vX3_123 rfl (q5.1.lt (by decide)) rfl (by decide) (Nat.le_of_ble_eq_true rfl) (by decide) (by decide) ?_
    refine T_mat q5 ?_
    refine k_i rfl ?_
    refine r_put (k := 8) f5 q5 dX3_enter_136 (by decide) (vin (by decide)) (fun h6 f6 q6 => ?_)
    refine w_vret dX3_enter_137 ?_
    rw [entS, if_pos c_12] at k; exact k _ f6 q6
  · refine w_aload_n dX3_enter_15 rfl rfl ?_
    refine w_gs (b := 14) q.1 dX3_enter_16 fX3_9 (by decide) rfl rfl (by decide) ?_
    refine w_bipush dX3_enter_19 (v := 11) (by decide) ?_
    refine w_aload_n dX3_enter_21 rfl rfl ?_
    refine w_gs (b := 14) q.1 dX3_enter_22 fX3_9 (by decide) rfl rfl (by decide) ?_
    refine w_bipush dX3_enter_25 (v := 6) (by decide) ?_
    refine r_get (k := 6) q dX3_enter_27 (by decide) (vin (by decide)) ?_
    refine r_put (k := 11) f q dX3_enter_28 (by decide) (vin (by decide)) (fun h7 f7 q7 => ?_)
    refine w_aload_n dX3_enter_29 rfl rfl ?_
    refine w_gs (b := 14) q7.1 dX3_enter_30 fX3_9 (by decide) rfl rfl (by decide) ?_
    refine w_bipush dX3_enter_33 (v := 6) (by decide) ?_
    refine w_aload_n dX3_enter_35 rfl rfl ?_
    refine w_gs (b := 14) q7.1 dX3_enter_36 fX3_9 (by decide) rfl rfl (by decide) ?_
    refine w_bipush dX3_enter_39 (v := 10) (by decide) ?_
    refine r_get (k := 10) q7 dX3_enter_41 (by decide) (vin (by decide)) ?_
    refine r_put (k := 6) f7 q7 dX3_enter_42 (by decide) (vin (by decide)) (fun h8 f8 q8 => ?_)
    refine w_aload_n dX3_enter_43 rfl rfl ?_
    refine w_gs (b := 14) q8.1 dX3_enter_44 fX3_9 (by decide) rfl rfl (by decide) ?_
    refine w_bipush dX3_enter_47 (v := 9) (by decide) ?_
    refine w_iload_n dX3_enter_49 rfl rfl ?_
    refine w_ldc dX3_enter_50 kX3_147 ?_
    refine w_iand dX3_enter_52 ?_
    refine r_put (k := 9) f8 q8 dX3_enter_53 (by decide) (vin (by decide)) (fun h9 f9 q9 => ?_)
    refine w_aload_n dX3_enter_54 rfl rfl ?_
    refine w_gs (b := 14) q9.1 dX3_enter_55 fX3_9 (by decide) rfl rfl (by decide) ?_
    refine w_bipush dX3_enter_58 (v := 6) (by decide) ?_
    refine w_aload_n dX3_enter_60 rfl rfl ?_
    refine w_gs (b := 14) q9.1 dX3_enter_61 fX3_9 (by decide) rfl rfl (by decide) ?_
    refine w_bipush dX3_enter_64 (v := 6) (by decide) ?_
    refine r_get (k := 6) q9 dX3_enter_66 (by decide) (vin (by decide)) ?_
    refine w_iconst dX3_enter_67 (v := 1) (by decide) ?_
    refine w_isub dX3_enter_68 ?_
    refine w_ldc dX3_enter_69 kX3_66 ?_
    refine w_iand dX3_enter_71 ?_
    refine r_put (k := 6) f9 q9 dX3_enter_72 (by decide) (vin (by decide)) (fun h10 f10 q10 => ?_)
    refine w_aload_n dX3_enter_73 rfl rfl ?_
    refine w_aload_n dX3_enter_74 rfl rfl ?_
    refine w_gs (b := 14) q10.1 dX3_enter_75 fX3_9 (by decide) rfl rfl (by decide) ?_
    refine w_bipush dX3_enter_78 (v := 6) (by decide) ?_
    refine r_get (k := 6) q10 dX3_enter_80 (by decide) (vin (by decide)) ?_
    refine w_iload_n dX3_enter_81 rfl rfl ?_
    refine w_v2 (d2 := 1) (L2 := 23) dX3_enter_82 vX3_119 rfl (q10.1.lt (by decide)) rfl rfl (by decide) (Nat.le_of_ble_eq_true rfl) (by decide) (by decide) ?_
    refine T_put f10 q10 (fun h11 f11 q11 => ?_)
    refine k_v rfl ?_
    refine w_aload_n dX3_enter_85 rfl rfl ?_
    refine w_gs (b := 14) q11.1 dX3_enter_86 fX3_9 (by decide) rfl rfl (by decide) ?_
    refine w_bipush dX3_enter_89 (v := 6) (by decide) ?_
    refine w_aload_n dX3_enter_91 rfl rfl ?_
    refine w_gs (b := 14) q11.1 dX3_enter_92 fX3_9 (by decide) rfl rfl (by decide) ?_
    refine w_bipush dX3_enter_95 (v := 6) (by decide) ?_
    refine r_get (k := 6) q11 dX3_enter_97 (by decide) (vin (by decide)) ?_
    refine w_iconst dX3_enter_98 (v := 1) (by decide) ?_
    refine w_isub dX3_enter_99 ?_
    refine w_ldc dX3_enter_100 kX3_66 ?_
    refine w_iand dX3_enter_102 ?_
    refine r_put (k := 6) f11 q11 dX3_enter_103 (by decide) (vin (by decide)) (fun h12 f12 q12 => ?_)
    refine w_aload_n dX3_enter_104 rfl rfl ?_
    refine w_aload_n dX3_enter_105 rfl rfl ?_
    refine w_gs (b := 14) q12.1 dX3_enter_106 fX3_9 (by decide) rfl rfl (by decide) ?_
    refine w_bipush dX3_enter_109 (v := 6) (by decide) ?_
    refine r_get (k := 6) q12 dX3_enter_111 (by decide) (vin (by decide)) ?_
    refine w_aload_n dX3_enter_112 rfl rfl ?_
    refine w_gs (b := 14) q12.1 dX3_enter_113 fX3_9 (by decide) rfl rfl (by decide) ?_
    refine w_bipush dX3_enter_116 (v := 8) (by decide) ?_
    refine r_get (k := 8) q12 dX3_enter_118 (by decide) (vin (by decide)) ?_
    refine w_v2 (d2 := 1) (L2 := 23) dX3_enter_119 vX3_119 rfl (q12.1.lt (by decide)) rfl rfl (by decide) (Nat.le_of_ble_eq_true rfl) (by decide) (by decide) ?_
    refine T_put f12 q12 (fun h13 f13 q13 => ?_)
    refine k_v rfl ?_
    refine w_aload_n dX3_enter_122 rfl rfl ?_
    refine w_gs (b := 14) q13.1 dX3_enter_123 fX3_9 (by decide) rfl rfl (by decide) ?_
    refine w_bipush dX3_enter_126 (v := 8) (by decide) ?_
    refine w_aload_n dX3_enter_128 rfl rfl ?_
    refine w_gs (b := 16) q13.1 dX3_enter_129 fX3_21 (by decide) rfl rfl (by decide) ?_
    refine w_iload_n dX3_enter_132 rfl rfl ?_
    refine w_v1 (d2 := 0) (L2 := 0) dX3_enter_133 vX3_123 rfl (q13.1.lt (by decide)) rfl (by decide) (Nat.le_of_ble_eq_true rfl) (by decide) (by decide) ?_
    refine T_mat q13 ?_
    refine k_i rfl ?_
    refine r_put (k := 8) f13 q13 dX3_enter_136 (by decide) (vin (by decide)) (fun h14 f14 q14 => ?_)
    refine w_vret dX3_enter_137 ?_
    rw [entS, if_neg c_12] at k; exact k _ f14 q14

