/-! THE CLASS: the machine, row by row over its numbers -/
section MR9
variable {X : Nat × (Nat → Int32)} {M : MR} {d L pc idx ci a k : Nat} {ty : FieldType} {f9 : Bool} {ls : List (Option Value)} {st : List Value} {h0 h : PH} {σ σ' : MS} {Q : Option Value → PH → Prop} {i v : Int32}
theorem rcS (q : RC h σ) : hI h 13 5 = σ.1 12 := q.2.2.2.2.2.2.1
theorem rcR (q : RC h σ) : hI h 13 6 = σ.1 20 := q.2.2.2.2.2.2.2.1
theorem rcL (q : RC h σ) : hI h 18 3 = σ.1 13 := q.2.2.2.2.2.2.2.2.1
theorem rcB (q : RC h σ) : hI h 18 4 = σ.1 14 := q.2.2.2.2.2.2.2.2.2.1
theorem rcT (q : RC h σ) : hI h 20 2 = σ.1 15 := q.2.2.2.2.2.2.2.2.2.2
theorem r_get (q : RC h σ) (hd : decode M.2.1 pc = .ok (.iaload, 1)) (hi : i.toNatClampNeg = k) (hin : vp_in i 12) (kk : WP X M d L (pc + 1) ls (.int (σ.1 k) :: st) h Q) : WP X M d L pc ls (.int i :: .ref 14 :: st) h Q :=
  w_iaload hd rfl (q.1.lt (by decide)) hin (by rw [hi, q.2.2.2.2.1 k (by rw [← hi]; exact Nat.not_le.mp (fun z => hin (Or.inr z)))]; exact kk)
theorem c_get (q : RC h σ) (hd : decode M.2.1 pc = .ok (.iaload, 1)) (hi : i.toNatClampNeg = k) (hin : vp_in i 4) (kk : WP X M d L (pc + 1) ls (.int (σ.1 (16 + k)) :: st) h Q) : WP X M d L pc ls (.int i :: .ref 15 :: st) h Q :=
  w_iaload hd rfl (q.1.lt (by decide)) hin (by rw [hi, q.2.2.2.2.2.1 k (by rw [← hi]; exact Nat.not_le.mp (fun z => hin (Or.inr z)))]; exact kk)
theorem r_put (f : Fm h0 h) (q : RC h σ) (hd : decode M.2.1 pc = .ok (.iastore, 1)) (hi : i.toNatClampNeg = k) (hin : vp_in i 12) (kk : ∀ h', Fm h0 h' → RC h' (sG σ k v) → WP X M d L (pc + 1) ls st h' Q) : WP X M d L pc ls (.int v :: .int i :: .ref 14 :: st) h Q :=
  w_iastore hd rfl (q.1.lt (by decide)) hin (by rw [hi]; exact kk _ (f.i (by decide)) (q.reg (by rw [← hi]; exact Nat.not_le.mp (fun z => hin (Or.inr z)))))
theorem c_put (f : Fm h0 h) (q : RC h σ) (hd : decode M.2.1 pc = .ok (.iastore, 1)) (hi : i.toNatClampNeg = k) (hin : vp_in i 4) (kk : ∀ h', Fm h0 h' → RC h' (sG σ (16 + k) v) → WP X M d L (pc + 1) ls st h' Q) : WP X M d L pc ls (.int v :: .int i :: .ref 15 :: st) h Q :=
  w_iastore hd rfl (q.1.lt (by decide)) hin (by rw [hi]; exact kk _ (f.i (by decide)) (q.cnt (by rw [← hi]; exact Nat.not_le.mp (fun z => hin (Or.inr z)))))
theorem x_get (S : St h) (hd : decode M.2.1 pc = .ok (.getfield idx, 3)) (hf : FL M.1 idx ci k ty f9) (e : hI h a k = v) (h0 : fk ci k = 0) (hk : kd a = ci) (ha : a < 40) (kk : WP X M d L (pc + 3) ls (.int v :: st) h Q) : WP X M d L pc ls (.ref a :: st) h Q :=
  w_gi S hd hf h0 hk ha (by rw [e]; exact kk)
theorem x_put (f : Fm h0 h) (q : RC h σ) (hd : decode M.2.1 pc = .ok (.putfield idx, 3)) (hf : FL M.1 idx ci k .int false) (q' : RC (sI h a k v) σ') (h9 : fk ci k = 0) (hk : kd a = ci) (ha : 13 ≤ a ∧ a ≤ 21) (kk : ∀ h', Fm h0 h' → RC h' σ' → WP X M d L (pc + 3) ls st h' Q) : WP X M d L pc ls (.int v :: .ref a :: st) h Q :=
  w_pi q.1 hd hf h9 hk (by omega) (kk _ (f.i ha) q')
theorem w_lkE {dflt : Int} {ps : Array (Int × Int)} {len : Nat} {x kx : Int32} {off : Int} {tgt : Nat} (e : x = kx) (hd : decode M.2.1 pc = .ok (.lookupswitch dflt ps, len)) (hp : (ps.toList.zip (ps.toList.drop 1)).all (fun (a, next) => a.1 < next.1) = true) (ho : Op.lookupswitch.offset ps.toList dflt kx.toInt = off) (ht : (pc : Int) + off = (tgt : Int)) (kk : WP X M d L tgt ls st h Q) : WP X M d L pc ls (.int x :: st) h Q := by
  subst e; exact w_lookup hd hp ho ht kk
theorem w_tbE {dflt lo hi : Int} {offs : Array Int} {len : Nat} {x kx : Int32} {off : Int} {tgt : Nat} (e : x = kx) (hd : decode M.2.1 pc = .ok (.tableswitch dflt lo hi offs, len)) (h1 : ¬ kx.toInt < lo) (h2 : ¬ hi < kx.toInt) (ho : offs[(kx.toInt - lo).toNat]? = some off) (ht : (pc : Int) + off = (tgt : Int)) (kk : WP X M d L tgt ls st h Q) : WP X M d L pc ls (.int x :: st) h Q := by
  subst e; exact w_tableIn hd h1 h2 ho ht kk
end MR9
theorem ne_toInt {x kx : Int32} {n : Int} (h : ¬ x = kx) (hk : kx.toInt = n) : x.toInt ≠ n := fun e => h (Int32.toInt_inj.mp (e.trans hk.symm))
/-- the lowest bits as a number with sign, as the class has it -/
def sgS (w b : Int32) : Int32 := (w &&& 2 * (1 : Int32) <<< (b - 1 &&& 31) - 1 ^^^ (1 : Int32) <<< (b - 1 &&& 31)) - (1 : Int32) <<< (b - 1 &&& 31)
def barS (σ : MS) (a : Int32) : Prop := ¬ (σ.1 9 &&& 32768) = 0 ∧ (a < 12288 ∨ 65024 ≤ a)
theorem barS_dec (σ : MS) (a : Int32) : barS σ a ∨ ¬ barS σ a := Classical.em _
noncomputable def ifp {α : Type} (c : Prop) (a b : α) : α := @ite α c (Classical.propDecidable c) a b
theorem ifp_t {α : Type} {c : Prop} {a b : α} (h : c) : ifp c a b = a := if_pos h
theorem ifp_f {α : Type} {c : Prop} {a b : α} (h : ¬ c) : ifp c a b = b := if_neg h
def lookS (σ : MS) (a : Int32) : Int32 := if a = 65024 then stS σ else if a = 65026 then daS σ else if a = 65028 then 32768 else if a = 65030 then 0 else if a = 65534 then 32768 else σ.2.1 (ix a)
/-- what a READ gives, and leaves -/
noncomputable def fetV (σ : MS) (a : Int32) : Int32 := ifp (barS σ a) 0 (lookS σ a)
noncomputable def fetS (σ : MS) (a : Int32) : MS := ifp (barS σ a) (sG σ 20 2) (if a = 65026 then sK (sG σ 13 (lookS σ a)) σ.2.2.1.tail else σ)
noncomputable def putS (σ : MS) (a v : Int32) : MS := ifp (barS σ a) (sG σ 20 2) (if a = 65024 then sG σ 14 (v &&& 16384) else if a = 65026 then σ else if a = 65028 then σ else if a = 65030 then sP σ v else if a = 65534 then (if v &&& 32768 = 0 then sG σ 12 1 else σ) else sM σ (ix a) (v &&& 65535))
set_option maxRecDepth 20000 in
set_option maxHeartbeats 4000000 in
/-- signed(word, bits) -/
theorem T_sg {X : Nat × (Nat → Int32)} {h : PH} {Q : Option Value → PH → Prop} {w b : Int32} (k : Q (some (.int (sgS w b))) h) : WP X mX10_signed 0 0 0 (en 3 [.int w, .int b]) [] h Q := by
  refine w_iconst dX10_signed_0 (v := 1) (by decide) ?_
  refine w_iload_n dX10_signed_1 rfl rfl ?_
  refine w_iconst dX10_signed_2 (v := 1) (by decide) ?_
  refine w_isub dX10_signed_3 ?_
  refine w_ishl dX10_signed_4 ?_
  refine w_istore_n dX10_signed_5 rfl (by decide) ?_
  refine w_iload_n dX10_signed_6 rfl rfl ?_
  refine w_iconst dX10_signed_7 (v := 2) (by decide) ?_
  refine w_iload_n dX10_signed_8 rfl rfl ?_
  refine w_imul dX10_signed_9 ?_
  refine w_iconst dX10_signed_10 (v := 1) (by decide) ?_
  refine w_isub dX10_signed_11 ?_
  refine w_iand dX10_signed_12 ?_
  refine w_iload_n dX10_signed_13 rfl rfl ?_
  refine w_ixor dX10_signed_14 ?_
  refine w_iload_n dX10_signed_15 rfl rfl ?_
  refine w_isub dX10_signed_16 ?_
  refine w_iret dX10_signed_17 (fun _ e => by cases e; rfl) ?_
  exact k

set_option maxRecDepth 20000 in
set_option maxHeartbeats 4000000 in
/-- isBarred(place) -/
theorem T_bar {X : Nat × (Nat → Int32)} {h : PH} {σ : MS} {Q : Option Value → PH → Prop} {p : Int32} (q : RC h σ) (k1 : barS σ p → Q (some (.int 1)) h) (k0 : ¬ barS σ p → Q (some (.int 0)) h) : WP X mX3_isBarred 0 0 0 (en 2 [.ref 13, .int p]) [] h Q := by
  refine w_aload_n dX3_isBarred_0 rfl rfl ?_
  refine w_gs (b := 14) q.1 dX3_isBarred_1 fX3_9 (by decide) rfl rfl (by decide) ?_
  refine w_bipush dX3_isBarred_4 (v := 9) (by decide) ?_
  refine r_get (k := 9) q dX3_isBarred_6 (by decide) (vin (by decide)) ?_
  refine w_ldc dX3_isBarred_7 kX3_118 ?_
  refine w_iand dX3_isBarred_9 ?_
  refine w_if_eq (tgt := 30) dX3_isBarred_10 (by decide) (fun c_10 => ?_) (fun c_10 => ?_)
  · refine w_iconst dX3_isBarred_30 (v := 0) (by decide) ?_
    refine w_iret dX3_isBarred_31 (fun _ e => by cases e; decide) ?_
    exact k0 (fun z => z.1 c_10)
  · refine w_iload_n dX3_isBarred_13 rfl rfl ?_
    refine w_sipush dX3_isBarred_14 (v := 12288) (by decide) ?_
    refine w_icmp_lt (tgt := 26) dX3_isBarred_17 (by decide) (fun c_17 => ?_) (fun c_17 => ?_)
    · refine w_iconst dX3_isBarred_26 (v := 1) (by decide) ?_
      refine w_goto (tgt := 31) dX3_isBarred_27 (by decide) ?_
      refine w_iret dX3_isBarred_31 (fun _ e => by cases e; decide) ?_
      exact k1 ⟨c_10, Or.inl c_17⟩
    · refine w_iload_n dX3_isBarred_20 rfl rfl ?_
      refine w_ldc dX3_isBarred_21 kX3_50 ?_
      refine w_icmp_lt (tgt := 30) dX3_isBarred_23 (by decide) (fun c_23 => ?_) (fun c_23 => ?_)
      · refine w_iconst dX3_isBarred_30 (v := 0) (by decide) ?_
        refine w_iret dX3_isBarred_31 (fun _ e => by cases e; decide) ?_
        exact k0 (fun z => z.2.elim c_17 (fun y => absurd c_23 (by rw [Int32.not_lt]; exact y)))
      · refine w_iconst dX3_isBarred_26 (v := 1) (by decide) ?_
        refine w_goto (tgt := 31) dX3_isBarred_27 (by decide) ?_
        refine w_iret dX3_isBarred_31 (fun _ e => by cases e; decide) ?_
        exact k1 ⟨c_10, Or.inr (Int32.not_lt.mp c_23)⟩

set_option maxRecDepth 20000 in
set_option maxHeartbeats 4000000 in
/-- look(place) -/
theorem T_look {X : Nat × (Nat → Int32)} {h : PH} {σ : MS} {Q : Option Value → PH → Prop} {p : Int32} (q : RC h σ) (k : Q (some (.int (lookS σ p))) h) : WP X mX3_look 1 22 0 (en 2 [.ref 13, .int p]) [] h Q := by
  refine w_iload_n dX3_look_0 rfl rfl ?_
  by_cases s_65024 : p = 65024
  · refine w_lkE (off := 51) (tgt := 52) s_65024 dX3_look_1 (by decide) (by decide) (by decide) ?_
    refine w_aload_n dX3_look_52 rfl rfl ?_
    refine w_gs (b := 18) q.1 dX3_look_53 fX3_28 (by decide) rfl rfl (by decide) ?_
    refine w_v0 (d2 := 0) (L2 := 0) dX3_look_56 vX3_77 rfl (q.1.lt (by decide)) (by decide) (Nat.le_of_ble_eq_true rfl) (by decide) (by decide) ?_
    refine T_status q ?_
    refine k_i rfl ?_
    refine w_iret dX3_look_59 (fun _ e => by cases e; rfl) ?_
    rw [lookS, if_pos s_65024] at k; exact k
  by_cases s_65026 : p = 65026
  · refine w_lkE (off := 59) (tgt := 60) s_65026 dX3_look_1 (by decide) (by decide) (by decide) ?_
    refine w_aload_n dX3_look_60 rfl rfl ?_
    refine w_gs (b := 18) q.1 dX3_look_61 fX3_28 (by decide) rfl rfl (by decide) ?_
    refine w_v0 (d2 := 0) (L2 := 0) dX3_look_64 vX3_138 rfl (q.1.lt (by decide)) (by decide) (Nat.le_of_ble_eq_true rfl) (by decide) (by decide) ?_
    refine T_data q ?_
    refine k_i rfl ?_
    refine w_iret dX3_look_67 (fun _ e => by cases e; rfl) ?_
    rw [lookS, if_neg s_65024, if_pos s_65026] at k; exact k
  by_cases s_65028 : p = 65028
  · refine w_lkE (off := 67) (tgt := 68) s_65028 dX3_look_1 (by decide) (by decide) (by decide) ?_
    refine w_ldc dX3_look_68 kX3_118 ?_
    refine w_iret dX3_look_70 (fun _ e => by cases e; rfl) ?_
    rw [lookS, if_neg s_65024, if_neg s_65026, if_pos s_65028] at k; exact k
  by_cases s_65030 : p = 65030
  · refine w_lkE (off := 70) (tgt := 71) s_65030 dX3_look_1 (by decide) (by decide) (by decide) ?_
    refine w_iconst dX3_look_71 (v := 0) (by decide) ?_
    refine w_iret dX3_look_72 (fun _ e => by cases e; rfl) ?_
    rw [lookS, if_neg s_65024, if_neg s_65026, if_neg s_65028, if_pos s_65030] at k; exact k
  by_cases s_65534 : p = 65534
  · refine w_lkE (off := 67) (tgt := 68) s_65534 dX3_look_1 (by decide) (by decide) (by decide) ?_
    refine w_ldc dX3_look_68 kX3_118 ?_
    refine w_iret dX3_look_70 (fun _ e => by cases e; rfl) ?_
    rw [lookS, if_neg s_65024, if_neg s_65026, if_neg s_65028, if_neg s_65030, if_pos s_65534] at k; exact k
  refine w_lookup (off := 72) (tgt := 73) dX3_look_1 (by decide) (by rw [lv_osw s_65024 (by decide), lv_osw s_65026 (by decide), lv_osw s_65028 (by decide), lv_osw s_65030 (by decide), lv_osw s_65534 (by decide)]; rfl) (by decide) ?_
  refine w_aload_n dX3_look_73 rfl rfl ?_
  refine w_gs (b := 16) q.1 dX3_look_74 fX3_21 (by decide) rfl rfl (by decide) ?_
  refine w_iload_n dX3_look_77 rfl rfl ?_
  refine w_v1 (d2 := 0) (L2 := 0) dX3_look_78 vX3_123 rfl (q.1.lt (by decide)) rfl (by decide) (Nat.le_of_ble_eq_true rfl) (by decide) (by decide) ?_
  refine T_mat q ?_
  refine k_i rfl ?_
  refine w_iret dX3_look_81 (fun _ e => by cases e; rfl) ?_
  rw [lookS, if_neg s_65024, if_neg s_65026, if_neg s_65028, if_neg s_65030, if_neg s_65534] at k; exact k

theorem T_keep2 {X : Nat × (Nat → Int32)} {h0 h : PH} {σ : MS} {Q : Option Value → PH → Prop} {p v : Int32} (f : Fm h0 h) (q : RC h σ) (k : ∀ h', Fm h0 h' → RC h' (sM σ (ix p) (v &&& 65535)) → Q none h') : WP X mX4_keep 0 0 0 (en 4 [.ref 16, .int p, .int v]) [] h Q := T_keep q (fun h' g r => k h' (f.tr g) r)
theorem T_drop2 {X : Nat × (Nat → Int32)} {h0 h : PH} {σ : MS} {Q : Option Value → PH → Prop} (f : Fm h0 h) (q : RC h σ) (k : ∀ h', Fm h0 h' → RC h' (sK σ σ.2.2.1.tail) → Q none h') : WP X mX2_drop 0 0 0 (en 1 [.ref 18]) [] h Q := T_drop q (fun h' g r => k h' (f.tr g) r)
theorem T_padd2 {X : Nat × (Nat → Int32)} {h0 h : PH} {σ : MS} {Q : Option Value → PH → Prop} {b : Int32} (f : Fm h0 h) (q : RC h σ) (k : ∀ h', Fm h0 h' → RC h' (sP σ b) → Q none h') : WP X mX6_add 0 0 0 (en 2 [.ref 20, .int b]) [] h Q := T_padd q (fun h' g r => k h' (f.tr g) r)
set_option maxRecDepth 20000 in
set_option maxHeartbeats 4000000 in
/-- fetch(place) -/
theorem T_fetch {X : Nat × (Nat → Int32)} {h0 h : PH} {σ : MS} {Q : Option Value → PH → Prop} {p : Int32} (f : Fm h0 h) (q : RC h σ) (k : ∀ h', Fm h0 h' → RC h' (fetS σ p) → Q (some (.int (fetV σ p))) h') : WP X mX3_fetch 2 43 0 (en 3 [.ref 13, .int p]) [] h Q := by
  refine w_aload_n dX3_fetch_0 rfl rfl ?_
  refine w_iload_n dX3_fetch_1 rfl rfl ?_
  refine w_v1 (d2 := 0) (L2 := 0) dX3_fetch_2 vX3_148 rfl (q.1.lt (by decide)) rfl (by decide) (Nat.le_of_ble_eq_true rfl) (by decide) (by decide) ?_
  refine T_bar q (fun c_b => ?_) (fun c_b => ?_)
  · refine k_i rfl ?_
    refine w_if_eq (tgt := 15) dX3_fetch_5 (by decide) (fun c_5 => absurd c_5 (by decide)) (fun c_5 => ?_)
    refine w_aload_n dX3_fetch_8 rfl rfl ?_
    refine w_iconst dX3_fetch_9 (v := 2) (by decide) ?_
    refine x_put f q dX3_fetch_10 fX3_43 (RC.raise q) rfl rfl (by decide) (fun h1 f1 q1 => ?_)
    refine w_iconst dX3_fetch_13 (v := 0) (by decide) ?_
    refine w_iret dX3_fetch_14 (fun _ e => by cases e; rfl) ?_
    rw [fetS, fetV, ifp_t c_b, ifp_t c_b] at k; exact k _ f1 q1
  · refine k_i rfl ?_
    refine w_if_eq (tgt := 15) dX3_fetch_5 (by decide) (fun c_5 => ?_) (fun c_5 => absurd c_5 (by decide))
    refine w_aload_n dX3_fetch_15 rfl rfl ?_
    refine w_iload_n dX3_fetch_16 rfl rfl ?_
    refine w_v1 (d2 := 1) (L2 := 22) dX3_fetch_17 vX3_144 rfl (q.1.lt (by decide)) rfl (by decide) (Nat.le_of_ble_eq_true rfl) (by decide) (by decide) ?_
    refine T_look q ?_
    refine k_i rfl ?_
    refine w_istore_n dX3_fetch_20 rfl (by decide) ?_
    refine w_iload_n dX3_fetch_21 rfl rfl ?_
    refine w_ldc dX3_fetch_22 kX3_151 ?_
    refine w_icmp_ne (tgt := 42) dX3_fetch_24 (by decide) (fun c_24 => ?_) (fun c_24 => ?_)
    · refine w_iload_n dX3_fetch_42 rfl rfl ?_
      refine w_iret dX3_fetch_43 (fun _ e => by cases e; rfl) ?_
      rw [fetS, fetV, ifp_f c_b, ifp_f c_b, if_neg c_24] at k; exact k _ f q
    · refine w_aload_n dX3_fetch_27 rfl rfl ?_
      refine w_gs (b := 18) q.1 dX3_fetch_28 fX3_28 (by decide) rfl rfl (by decide) ?_
      refine w_iload_n dX3_fetch_31 rfl rfl ?_
      refine x_put f q dX3_fetch_32 fX3_152 (RC.rl q) rfl rfl (by decide) (fun h2 f2 q2 => ?_)
      refine w_aload_n dX3_fetch_35 rfl rfl ?_
      refine w_gs (b := 18) q2.1 dX3_fetch_36 fX3_28 (by decide) rfl rfl (by decide) ?_
      refine w_v0 (d2 := 0) (L2 := 0) dX3_fetch_39 vX3_141 rfl (q2.1.lt (by decide)) (by decide) (Nat.le_of_ble_eq_true rfl) (by decide) (by decide) ?_
      refine T_drop2 f2 q2 (fun h3 f3 q3 => ?_)
      refine k_v rfl ?_
      refine w_iload_n dX3_fetch_42 rfl rfl ?_
      refine w_iret dX3_fetch_43 (fun _ e => by cases e; rfl) ?_
      rw [fetS, fetV, ifp_f c_b, ifp_f c_b, if_pos c_24] at k; exact k _ f3 q3

set_option maxRecDepth 20000 in
set_option maxHeartbeats 4000000 in
/-- put(place, v) -/
theorem T_put {X : Nat × (Nat → Int32)} {h0 h : PH} {σ : MS} {Q : Option Value → PH → Prop} {p v : Int32} (f : Fm h0 h) (q : RC h σ) (k : ∀ h', Fm h0 h' → RC h' (putS σ p v) → Q none h') : WP X mX3_put 1 23 0 (en 3 [.ref 13, .int p, .int v]) [] h Q := by
  refine w_aload_n dX3_put_0 rfl rfl ?_
  refine w_iload_n dX3_put_1 rfl rfl ?_
  refine w_v1 (d2 := 0) (L2 := 0) dX3_put_2 vX3_148 rfl (q.1.lt (by decide)) rfl (by decide) (Nat.le_of_ble_eq_true rfl) (by decide) (by decide) ?_
  refine T_bar q (fun c_b => ?_) (fun c_b => ?_)
  · refine k_i rfl ?_
    refine w_if_eq (tgt := 14) dX3_put_5 (by decide) (fun c_5 => absurd c_5 (by decide)) (fun c_5 => ?_)
    refine w_aload_n dX3_put_8 rfl rfl ?_
    refine w_iconst dX3_put_9 (v := 2) (by decide) ?_
    refine x_put f q dX3_put_10 fX3_43 (RC.raise q) rfl rfl (by decide) (fun h1 f1 q1 => ?_)
    refine w_vret dX3_put_13 ?_
    rw [putS, ifp_t c_b] at k; exact k _ f1 q1
  · refine k_i rfl ?_
    refine w_if_eq (tgt := 14) dX3_put_5 (by decide) (fun c_5 => ?_) (fun c_5 => absurd c_5 (by decide))
    refine w_iload_n dX3_put_14 rfl rfl ?_
    by_cases s_65024 : p = 65024
    · refine w_lkE (off := 49) (tgt := 64) s_65024 dX3_put_15 (by decide) (by decide) (by decide) ?_
      refine w_aload_n dX3_put_64 rfl rfl ?_
      refine w_gs (b := 18) q.1 dX3_put_65 fX3_28 (by decide) rfl rfl (by decide) ?_
      refine w_iload_n dX3_put_68 rfl rfl ?_
      refine w_sipush dX3_put_69 (v := 16384) (by decide) ?_
      refine w_iand dX3_put_72 ?_
      refine x_put f q dX3_put_73 fX3_155 (RC.b14 q) rfl rfl (by decide) (fun h2 f2 q2 => ?_)
      refine w_goto (tgt := 117) dX3_put_76 (by decide) ?_
      refine w_vret dX3_put_117 ?_
      rw [putS, ifp_f c_b, if_pos s_65024] at k; exact k _ f2 q2
    by_cases s_65026 : p = 65026
    · refine w_lkE (off := 90) (tgt := 105) s_65026 dX3_put_15 (by decide) (by decide) (by decide) ?_
      refine w_goto (tgt := 117) dX3_put_105 (by decide) ?_
      refine w_vret dX3_put_117 ?_
      rw [putS, ifp_f c_b, if_neg s_65024, if_pos s_65026] at k; exact k _ f q
    by_cases s_65028 : p = 65028
    · refine w_lkE (off := 90) (tgt := 105) s_65028 dX3_put_15 (by decide) (by decide) (by decide) ?_
      refine w_goto (tgt := 117) dX3_put_105 (by decide) ?_
      refine w_vret dX3_put_117 ?_
      rw [putS, ifp_f c_b, if_neg s_65024, if_neg s_65026, if_pos s_65028] at k; exact k _ f q
    by_cases s_65030 : p = 65030
    · refine w_lkE (off := 64) (tgt := 79) s_65030 dX3_put_15 (by decide) (by decide) (by decide) ?_
      refine w_aload_n dX3_put_79 rfl rfl ?_
      refine w_gs (b := 20) q.1 dX3_put_80 fX3_35 (by decide) rfl rfl (by decide) ?_
      refine w_iload_n dX3_put_83 rfl rfl ?_
      refine w_v1 (d2 := 0) (L2 := 0) dX3_put_84 vX3_130 rfl (q.1.lt (by decide)) rfl (by decide) (Nat.le_of_ble_eq_true rfl) (by decide) (by decide) ?_
      refine T_padd2 f q (fun h3 f3 q3 => ?_)
      refine k_v rfl ?_
      refine w_goto (tgt := 117) dX3_put_87 (by decide) ?_
      refine w_vret dX3_put_117 ?_
      rw [putS, ifp_f c_b, if_neg s_65024, if_neg s_65026, if_neg s_65028, if_pos s_65030] at k; exact k _ f3 q3
    by_cases s_65534 : p = 65534
    · refine w_lkE (off := 75) (tgt := 90) s_65534 dX3_put_15 (by decide) (by decide) (by decide) ?_
      refine w_iload_n dX3_put_90 rfl rfl ?_
      refine w_ldc dX3_put_91 kX3_118 ?_
      refine w_iand dX3_put_93 ?_
      refine w_if_ne (tgt := 117) dX3_put_94 (by decide) (fun c_94 => ?_) (fun c_94 => ?_)
      · refine w_vret dX3_put_117 ?_
        rw [putS, ifp_f c_b, if_neg s_65024, if_neg s_65026, if_neg s_65028, if_neg s_65030, if_pos s_65534, if_neg c_94] at k; exact k _ f q
      · refine w_aload_n dX3_put_97 rfl rfl ?_
        refine w_iconst dX3_put_98 (v := 1) (by decide) ?_
        refine x_put f q dX3_put_99 fX3_39 (RC.state q) rfl rfl (by decide) (fun h4 f4 q4 => ?_)
        refine w_goto (tgt := 117) dX3_put_102 (by decide) ?_
        refine w_vret dX3_put_117 ?_
        rw [putS, ifp_f c_b, if_neg s_65024, if_neg s_65026, if_neg s_65028, if_neg s_65030, if_pos s_65534, if_pos c_94] at k; exact k _ f4 q4
    refine w_lookup (off := 93) (tgt := 108) dX3_put_15 (by decide) (by rw [lv_osw s_65024 (by decide), lv_osw s_65026 (by decide), lv_osw s_65028 (by decide), lv_osw s_65030 (by decide), lv_osw s_65534 (by decide)]; rfl) (by decide) ?_
    refine w_aload_n dX3_put_108 rfl rfl ?_
    refine w_gs (b := 16) q.1 dX3_put_109 fX3_21 (by decide) rfl rfl (by decide) ?_
    refine w_iload_n dX3_put_112 rfl rfl ?_
    refine w_iload_n dX3_put_113 rfl rfl ?_
    refine w_v2 (d2 := 0) (L2 := 0) dX3_put_114 vX3_62 rfl (q.1.lt (by decide)) rfl rfl (by decide) (Nat.le_of_ble_eq_true rfl) (by decide) (by decide) ?_
    refine T_keep2 f q (fun h5 f5 q5 => ?_)
    refine k_v rfl ?_
    refine w_vret dX3_put_117 ?_
    rw [putS, ifp_f c_b, if_neg s_65024, if_neg s_65026, if_neg s_65028, if_neg s_65030, if_neg s_65534] at k; exact k _ f5 q5

