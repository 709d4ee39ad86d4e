/-! THE CLASS's WRITER -/
def r10 (x : Int32) : Int32 := x - x / 10 * 10
def rgT (r : Int32) : List Int32 := [82, 48 + r]
def dgC (n : Int32) : List Int32 := if n < 10 then [48 + r10 (n / 1)] else if n < 100 then [48 + r10 (n / 10), 48 + r10 (n / 1)] else if n < 1000 then [48 + r10 (n / 100), 48 + r10 (n / 10), 48 + r10 (n / 1)] else [48 + r10 (n / 1000), 48 + r10 (n / 100), 48 + r10 (n / 10), 48 + r10 (n / 1)]
def nvC (v : Int32) : List Int32 := if v < 0 then 35 :: 45 :: dgC (-v) else 35 :: dgC v
def hxD (w k : Int32) : Int32 := (sB 4).getD (w >>> ((4 * k) &&& 31) &&& 15).toNatClampNeg 0
def hx2 (w : Int32) : List Int32 := [120, hxD w 1, hxD w 0]
def hx4 (w : Int32) : List Int32 := [120, hxD w 3, hxD w 2, hxD w 1, hxD w 0]
def opT (f w : Int32) : List Int32 := if f = 65 then rgT (w >>> ((6 : Int32) &&& 31) &&& 7) else if f = 68 then rgT (w >>> ((9 : Int32) &&& 31) &&& 7) else if f = 74 then nvC (sgS w 11) else if f = 79 then nvC (sgS w 6) else if f = 83 then (if w &&& 32 = 0 then rgT (w &&& 7) else nvC (sgS w 5)) else if f = 86 then hx2 w else if f = 87 then nvC (sgS w 9) else hx4 w
def opL (w : Int32) : List Int32 → Bool → List Int32
  | [], _ => []
  | f :: fs, b => (if b = true then [32] else [44, 32]) ++ (opT f w ++ opL w fs false)
def lwT (i : Nat) (w : Int32) : List Int32 := sB (opTx.getD i 0) ++ opL w (sB (opSh.getD i 0)) true
def adB (L l : List Int32) : List Int32 := l.foldl (addB 32) L
theorem adB_app (L l m : List Int32) : adB L (l ++ m) = adB (adB L l) m := List.foldl_append
set_option maxRecDepth 20000 in
set_option maxHeartbeats 4000000 in
theorem L_atx {X : Nat × (Nat → Int32)} {h0 : PH} {Q : Option Value → PH → Prop} {j : Nat} (hj : j < 60) : ∀ (m i : Nat) (h : PH) (L : List Int32), i + m = (sB j).length → Sm [23, 24] h0 h → LC h L → (∀ h', Sm [23, 24] h0 h' → LC h' (adB L ((sB j).drop i)) → Q none h') → WP X mX1_addText 4 85 2 [some (.ref 23), some (.ref (1001000 + j)), some (.int (nI i))] [] h Q := by
  have hl := (sB_ok j hj).1
  intro m
  induction m with
  | zero =>
    intro i h L hi f q k
    rw [List.drop_eq_nil_of_le (by omega)] at k
    refine w_iload_n dX1_addText_2 rfl rfl ?_
    refine w_aload_n dX1_addText_3 rfl rfl ?_
    refine w_callC (d2 := 1) (L2 := 20) (M2 := mJ0_length_8abf5) (As := []) dX1_addText_4 oJ0_length_8abf5 lX1_23 iJ0_length_8abf5 sJ0_length_8abf5 (kO_s9 hj) rfl rfl (fun v hv => by cases hv) (by decide) (Nat.le_of_ble_eq_true rfl) (by decide) (by decide) ?_
    refine T_slen hj ?_
    refine k_i rfl ?_
    refine w_icmp_ge (tgt := 25) dX1_addText_7 (by decide) (fun c_7 => ?_) (fun c_7 => absurd c_7 (not_not_intro (nI_le (by omega) (by omega))))
    refine w_vret dX1_addText_25 ?_
    exact k _ f q
  | succ m ih =>
    intro i h L hi f q k
    have hv : (sB j)[i]? = some ((sB j).getD i 0) := by rw [List.getD_eq_getElem?_getD, List.getElem?_eq_getElem (by omega)]; rfl
    refine w_iload_n dX1_addText_2 rfl rfl ?_
    refine w_aload_n dX1_addText_3 rfl rfl ?_
    refine w_callC (d2 := 1) (L2 := 20) (M2 := mJ0_length_8abf5) (As := []) dX1_addText_4 oJ0_length_8abf5 lX1_23 iJ0_length_8abf5 sJ0_length_8abf5 (kO_s9 hj) rfl rfl (fun v hv => by cases hv) (by decide) (Nat.le_of_ble_eq_true rfl) (by decide) (by decide) ?_
    refine T_slen hj ?_
    refine k_i rfl ?_
    refine w_icmp_ge (tgt := 25) dX1_addText_7 (by decide) (fun c_7 => absurd c_7 (nI_ge (by omega) (by omega))) (fun c_7 => ?_)
    refine w_aload_n dX1_addText_10 rfl rfl ?_
    refine w_aload_n dX1_addText_11 rfl rfl ?_
    refine w_iload_n dX1_addText_12 rfl rfl ?_
    refine w_callC (d2 := 3) (L2 := 64) (M2 := mJ0_charAt_5068e) (As := [.int (nI (i))]) dX1_addText_13 oJ0_charAt_5068e lX1_28 iJ0_charAt_5068e sJ0_charAt_5068e (kO_s9 hj) rfl rfl (fun v hv => by simp only [List.mem_cons, List.not_mem_nil, or_false] at hv; rw [hv]; rfl) (Nat.le_of_ble_eq_true rfl) (Nat.le_of_ble_eq_true rfl) (by decide) (by decide) ?_
    refine T_char (i := i) hj (by omega) ?_
    refine k_i rfl ?_
    refine w_v1 (d2 := 0) (L2 := 0) dX1_addText_16 vX1_19 rfl (q.1.lt (by decide)) rfl (by decide) (Nat.le_of_ble_eq_true rfl) (by decide) (by decide) ?_
    refine T_addL f q (fun h1 f1 q1 => ?_)
    refine k_v rfl ?_
    refine w_iinc (v := (nI (i + 1))) dX1_addText_19 rfl (nI_1 i) (by decide) ?_
    refine w_goto (tgt := 2) dX1_addText_22 (by decide) ?_
    exact ih (i + 1) _ _ (by omega) f1 q1 (fun h9 f9 q9 => k h9 f9 (by rw [dr_s hv]; exact q9))

set_option maxRecDepth 20000 in
set_option maxHeartbeats 4000000 in
theorem T_atx {X : Nat × (Nat → Int32)} {h0 h : PH} {Q : Option Value → PH → Prop} {L : List Int32} {j : Nat} (hj : j < 60) (f : Sm [23, 24] h0 h) (q : LC h L) (k : ∀ h', Sm [23, 24] h0 h' → LC h' (adB L (sB j)) → Q none h') : WP X mX1_addText 4 85 0 (en 3 [.ref 23, .ref (1001000 + j)]) [] h Q := by
  refine w_iconst dX1_addText_0 (v := 0) (by decide) ?_
  refine w_istore_n dX1_addText_1 rfl (by decide) ?_
  exact L_atx hj (sB j).length 0 _ _ (by omega) f q k

set_option maxRecDepth 20000 in
set_option maxHeartbeats 4000000 in
theorem T_trg {X : Nat × (Nat → Int32)} {h0 h : PH} {Q : Option Value → PH → Prop} {L : List Int32} {r9 : Int32} (f : Sm [23, 24] h0 h) (q : LC h L) (k : ∀ h', Sm [23, 24] h0 h' → LC h' (adB L (rgT r9)) → Q none h') : WP X mX9_tellRegister 1 21 0 (en 2 [.ref 22, .int r9]) [] h Q := by
  refine w_aload_n dX9_tellRegister_0 rfl rfl ?_
  refine w_gs (b := 23) q.1 dX9_tellRegister_1 fX9_14 (by decide) rfl rfl (by decide) ?_
  refine w_bipush dX9_tellRegister_4 (v := 82) (by decide) ?_
  refine w_v1 (d2 := 0) (L2 := 0) dX9_tellRegister_6 vX9_84 rfl (q.1.lt (by decide)) rfl (by decide) (Nat.le_of_ble_eq_true rfl) (by decide) (by decide) ?_
  refine T_addL f q (fun h1 f1 q1 => ?_)
  refine k_v rfl ?_
  refine w_aload_n dX9_tellRegister_9 rfl rfl ?_
  refine w_gs (b := 23) q1.1 dX9_tellRegister_10 fX9_14 (by decide) rfl rfl (by decide) ?_
  refine w_bipush dX9_tellRegister_13 (v := 48) (by decide) ?_
  refine w_iload_n dX9_tellRegister_15 rfl rfl ?_
  refine w_iadd dX9_tellRegister_16 ?_
  refine w_v1 (d2 := 0) (L2 := 0) dX9_tellRegister_17 vX9_84 rfl (q1.1.lt (by decide)) rfl (by decide) (Nat.le_of_ble_eq_true rfl) (by decide) (by decide) ?_
  refine T_addL f1 q1 (fun h2 f2 q2 => ?_)
  refine k_v rfl ?_
  refine w_vret dX9_tellRegister_20 ?_
  exact k _ f2 q2

set_option maxRecDepth 20000 in
set_option maxHeartbeats 4000000 in
theorem L_ud1 {X : Nat × (Nat → Int32)} {h0 h : PH} {Q : Option Value → PH → Prop} {L : List Int32} {v n : Int32} (f : Sm [23, 24] h0 h) (q : LC h L) (k : ∀ h', Sm [23, 24] h0 h' → LC h' (adB L [48 + r10 (n / 1)]) → Q none h') : WP X mX9_tellNumber 5 107 54 [some (.ref 22), some (.int v), some (.int n), some (.int 1)] [] h Q := by
  refine w_iload_n dX9_tellNumber_54 rfl rfl ?_
  refine w_if_le (tgt := 82) dX9_tellNumber_55 (by decide) (fun c_55 => absurd c_55 (by decide)) (fun c_55 => ?_)
  refine w_aload_n dX9_tellNumber_58 rfl rfl ?_
  refine w_gs (b := 23) q.1 dX9_tellNumber_59 fX9_14 (by decide) rfl rfl (by decide) ?_
  refine w_bipush dX9_tellNumber_62 (v := 48) (by decide) ?_
  refine w_iload_n dX9_tellNumber_64 rfl rfl ?_
  refine w_iload_n dX9_tellNumber_65 rfl rfl ?_
  refine w_idiv dX9_tellNumber_66 (by decide) ?_
  refine w_bipush dX9_tellNumber_67 (v := 10) (by decide) ?_
  refine w_irem dX9_tellNumber_69 (by decide) ?_
  refine w_iadd dX9_tellNumber_70 ?_
  refine w_v1 (d2 := 0) (L2 := 0) dX9_tellNumber_71 vX9_84 rfl (q.1.lt (by decide)) rfl (by decide) (Nat.le_of_ble_eq_true rfl) (by decide) (by decide) ?_
  refine T_addL f q (fun h1 f1 q1 => ?_)
  refine k_v rfl ?_
  refine w_iload_n dX9_tellNumber_74 rfl rfl ?_
  refine w_bipush dX9_tellNumber_75 (v := 10) (by decide) ?_
  refine w_idiv dX9_tellNumber_77 (by decide) ?_
  rw [show (1 : Int32) / 10 = 0 from by decide]
  refine w_istore_n dX9_tellNumber_78 rfl (by decide) ?_
  refine w_goto (tgt := 54) dX9_tellNumber_79 (by decide) ?_
  refine w_iload_n dX9_tellNumber_54 rfl rfl ?_
  refine w_if_le (tgt := 82) dX9_tellNumber_55 (by decide) (fun c_55 => ?_) (fun c_55 => absurd c_55 (by decide))
  refine w_vret dX9_tellNumber_82 ?_
  exact k _ f1 q1

set_option maxRecDepth 20000 in
set_option maxHeartbeats 4000000 in
theorem L_ud10 {X : Nat × (Nat → Int32)} {h0 h : PH} {Q : Option Value → PH → Prop} {L : List Int32} {v n : Int32} (f : Sm [23, 24] h0 h) (q : LC h L) (k : ∀ h', Sm [23, 24] h0 h' → LC h' (adB L [48 + r10 (n / 10), 48 + r10 (n / 1)]) → Q none h') : WP X mX9_tellNumber 5 107 54 [some (.ref 22), some (.int v), some (.int n), some (.int 10)] [] h Q := by
  refine w_iload_n dX9_tellNumber_54 rfl rfl ?_
  refine w_if_le (tgt := 82) dX9_tellNumber_55 (by decide) (fun c_55 => absurd c_55 (by decide)) (fun c_55 => ?_)
  refine w_aload_n dX9_tellNumber_58 rfl rfl ?_
  refine w_gs (b := 23) q.1 dX9_tellNumber_59 fX9_14 (by decide) rfl rfl (by decide) ?_
  refine w_bipush dX9_tellNumber_62 (v := 48) (by decide) ?_
  refine w_iload_n dX9_tellNumber_64 rfl rfl ?_
  refine w_iload_n dX9_tellNumber_65 rfl rfl ?_
  refine w_idiv dX9_tellNumber_66 (by decide) ?_
  refine w_bipush dX9_tellNumber_67 (v := 10) (by decide) ?_
  refine w_irem dX9_tellNumber_69 (by decide) ?_
  refine w_iadd dX9_tellNumber_70 ?_
  refine w_v1 (d2 := 0) (L2 := 0) dX9_tellNumber_71 vX9_84 rfl (q.1.lt (by decide)) rfl (by decide) (Nat.le_of_ble_eq_true rfl) (by decide) (by decide) ?_
  refine T_addL f q (fun h1 f1 q1 => ?_)
  refine k_v rfl ?_
  refine w_iload_n dX9_tellNumber_74 rfl rfl ?_
  refine w_bipush dX9_tellNumber_75 (v := 10) (by decide) ?_
  refine w_idiv dX9_tellNumber_77 (by decide) ?_
  rw [show (10 : Int32) / 10 = 1 from by decide]
  refine w_istore_n dX9_tellNumber_78 rfl (by decide) ?_
  refine w_goto (tgt := 54) dX9_tellNumber_79 (by decide) ?_
  refine w_iload_n dX9_tellNumber_54 rfl rfl ?_
  refine w_if_le (tgt := 82) dX9_tellNumber_55 (by decide) (fun c_55 => absurd c_55 (by decide)) (fun c_55 => ?_)
  refine w_aload_n dX9_tellNumber_58 rfl rfl ?_
  refine w_gs (b := 23) q1.1 dX9_tellNumber_59 fX9_14 (by decide) rfl rfl (by decide) ?_
  refine w_bipush dX9_tellNumber_62 (v := 48) (by decide) ?_
  refine w_iload_n dX9_tellNumber_64 rfl rfl ?_
  refine w_iload_n dX9_tellNumber_65 rfl rfl ?_
  refine w_idiv dX9_tellNumber_66 (by decide) ?_
  refine w_bipush dX9_tellNumber_67 (v := 10) (by decide) ?_
  refine w_irem dX9_tellNumber_69 (by decide) ?_
  refine w_iadd dX9_tellNumber_70 ?_
  refine w_v1 (d2 := 0) (L2 := 0) dX9_tellNumber_71 vX9_84 rfl (q1.1.lt (by decide)) rfl (by decide) (Nat.le_of_ble_eq_true rfl) (by decide) (by decide) ?_
  refine T_addL f1 q1 (fun h2 f2 q2 => ?_)
  refine k_v rfl ?_
  refine w_iload_n dX9_tellNumber_74 rfl rfl ?_
  refine w_bipush dX9_tellNumber_75 (v := 10) (by decide) ?_
  refine w_idiv dX9_tellNumber_77 (by decide) ?_
  rw [show (1 : Int32) / 10 = 0 from by decide]
  refine w_istore_n dX9_tellNumber_78 rfl (by decide) ?_
  refine w_goto (tgt := 54) dX9_tellNumber_79 (by decide) ?_
  refine w_iload_n dX9_tellNumber_54 rfl rfl ?_
  refine w_if_le (tgt := 82) dX9_tellNumber_55 (by decide) (fun c_55 => ?_) (fun c_55 => absurd c_55 (by decide))
  refine w_vret dX9_tellNumber_82 ?_
  exact k _ f2 q2

set_option maxRecDepth 20000 in
set_option maxHeartbeats 4000000 in
theorem L_ud100 {X : Nat × (Nat → Int32)} {h0 h : PH} {Q : Option Value → PH → Prop} {L : List Int32} {v n : Int32} (f : Sm [23, 24] h0 h) (q : LC h L) (k : ∀ h', Sm [23, 24] h0 h' → LC h' (adB L [48 + r10 (n / 100), 48 + r10 (n / 10), 48 + r10 (n / 1)]) → Q none h') : WP X mX9_tellNumber 5 107 54 [some (.ref 22), some (.int v), some (.int n), some (.int 100)] [] h Q := by
  refine w_iload_n dX9_tellNumber_54 rfl rfl ?_
  refine w_if_le (tgt := 82) dX9_tellNumber_55 (by decide) (fun c_55 => absurd c_55 (by decide)) (fun c_55 => ?_)
  refine w_aload_n dX9_tellNumber_58 rfl rfl ?_
  refine w_gs (b := 23) q.1 dX9_tellNumber_59 fX9_14 (by decide) rfl rfl (by decide) ?_
  refine w_bipush dX9_tellNumber_62 (v := 48) (by decide) ?_
  refine w_iload_n dX9_tellNumber_64 rfl rfl ?_
  refine w_iload_n dX9_tellNumber_65 rfl rfl ?_
  refine w_idiv dX9_tellNumber_66 (by decide) ?_
  refine w_bipush dX9_tellNumber_67 (v := 10) (by decide) ?_
  refine w_irem dX9_tellNumber_69 (by decide) ?_
  refine w_iadd dX9_tellNumber_70 ?_
  refine w_v1 (d2 := 0) (L2 := 0) dX9_tellNumber_71 vX9_84 rfl (q.1.lt (by decide)) rfl (by decide) (Nat.le_of_ble_eq_true rfl) (by decide) (by decide) ?_
  refine T_addL f q (fun h1 f1 q1 => ?_)
  refine k_v rfl ?_
  refine w_iload_n dX9_tellNumber_74 rfl rfl ?_
  refine w_bipush dX9_tellNumber_75 (v := 10) (by decide) ?_
  refine w_idiv dX9_tellNumber_77 (by decide) ?_
  rw [show (100 : Int32) / 10 = 10 from by decide]
  refine w_istore_n dX9_tellNumber_78 rfl (by decide) ?_
  refine w_goto (tgt := 54) dX9_tellNumber_79 (by decide) ?_
  refine w_iload_n dX9_tellNumber_54 rfl rfl ?_
  refine w_if_le (tgt := 82) dX9_tellNumber_55 (by decide) (fun c_55 => absurd c_55 (by decide)) (fun c_55 => ?_)
  refine w_aload_n dX9_tellNumber_58 rfl rfl ?_
  refine w_gs (b := 23) q1.1 dX9_tellNumber_59 fX9_14 (by decide) rfl rfl (by decide) ?_
  refine w_bipush dX9_tellNumber_62 (v := 48) (by decide) ?_
  refine w_iload_n dX9_tellNumber_64 rfl rfl ?_
  refine w_iload_n dX9_tellNumber_65 rfl rfl ?_
  refine w_idiv dX9_tellNumber_66 (by decide) ?_
  refine w_bipush dX9_tellNumber_67 (v := 10) (by decide) ?_
  refine w_irem dX9_tellNumber_69 (by decide) ?_
  refine w_iadd dX9_tellNumber_70 ?_
  refine w_v1 (d2 := 0) (L2 := 0) dX9_tellNumber_71 vX9_84 rfl (q1.1.lt (by decide)) rfl (by decide) (Nat.le_of_ble_eq_true rfl) (by decide) (by decide) ?_
  refine T_addL f1 q1 (fun h2 f2 q2 => ?_)
  refine k_v rfl ?_
  refine w_iload_n dX9_tellNumber_74 rfl rfl ?_
  refine w_bipush dX9_tellNumber_75 (v := 10) (by decide) ?_
  refine w_idiv dX9_tellNumber_77 (by decide) ?_
  rw [show (10 : Int32) / 10 = 1 from by decide]
  refine w_istore_n dX9_tellNumber_78 rfl (by decide) ?_
  refine w_goto (tgt := 54) dX9_tellNumber_79 (by decide) ?_
  refine w_iload_n dX9_tellNumber_54 rfl rfl ?_
  refine w_if_le (tgt := 82) dX9_tellNumber_55 (by decide) (fun c_55 => absurd c_55 (by decide)) (fun c_55 => ?_)
  refine w_aload_n dX9_tellNumber_58 rfl rfl ?_
  refine w_gs (b := 23) q2.1 dX9_tellNumber_59 fX9_14 (by decide) rfl rfl (by decide) ?_
  refine w_bipush dX9_tellNumber_62 (v := 48) (by decide) ?_
  refine w_iload_n dX9_tellNumber_64 rfl rfl ?_
  refine w_iload_n dX9_tellNumber_65 rfl rfl ?_
  refine w_idiv dX9_tellNumber_66 (by decide) ?_
  refine w_bipush dX9_tellNumber_67 (v := 10) (by decide) ?_
  refine w_irem dX9_tellNumber_69 (by decide) ?_
  refine w_iadd dX9_tellNumber_70 ?_
  refine w_v1 (d2 := 0) (L2 := 0) dX9_tellNumber_71 vX9_84 rfl (q2.1.lt (by decide)) rfl (by decide) (Nat.le_of_ble_eq_true rfl) (by decide) (by decide) ?_
  refine T_addL f2 q2 (fun h3 f3 q3 => ?_)
  refine k_v rfl ?_
  refine w_iload_n dX9_tellNumber_74 rfl rfl ?_
  refine w_bipush dX9_tellNumber_75 (v := 10) (by decide) ?_
  refine w_idiv dX9_tellNumber_77 (by decide) ?_
  rw [show (1 : Int32) / 10 = 0 from by decide]
  refine w_istore_n dX9_tellNumber_78 rfl (by decide) ?_
  refine w_goto (tgt := 54) dX9_tellNumber_79 (by decide) ?_
  refine w_iload_n dX9_tellNumber_54 rfl rfl ?_
  refine w_if_le (tgt := 82) dX9_tellNumber_55 (by decide) (fun c_55 => ?_) (fun c_55 => absurd c_55 (by decide))
  refine w_vret dX9_tellNumber_82 ?_
  exact k _ f3 q3

set_option maxRecDepth 20000 in
set_option maxHeartbeats 4000000 in
theorem L_ud1000 {X : Nat × (Nat → Int32)} {h0 h : PH} {Q : Option Value → PH → Prop} {L : List Int32} {v n : Int32} (f : Sm [23, 24] h0 h) (q : LC h L) (k : ∀ h', Sm [23, 24] h0 h' → LC h' (adB L [48 + r10 (n / 1000), 48 + r10 (n / 100), 48 + r10 (n / 10), 48 + r10 (n / 1)]) → Q none h') : WP X mX9_tellNumber 5 107 54 [some (.ref 22), some (.int v), some (.int n), some (.int 1000)] [] h Q := by
  refine w_iload_n dX9_tellNumber_54 rfl rfl ?_
  refine w_if_le (tgt := 82) dX9_tellNumber_55 (by decide) (fun c_55 => absurd c_55 (by decide)) (fun c_55 => ?_)
  refine w_aload_n dX9_tellNumber_58 rfl rfl ?_
  refine w_gs (b := 23) q.1 dX9_tellNumber_59 fX9_14 (by decide) rfl rfl (by decide) ?_
  refine w_bipush dX9_tellNumber_62 (v := 48) (by decide) ?_
  refine w_iload_n dX9_tellNumber_64 rfl rfl ?_
  refine w_iload_n dX9_tellNumber_65 rfl rfl ?_
  refine w_idiv dX9_tellNumber_66 (by decide) ?_
  refine w_bipush dX9_tellNumber_67 (v := 10) (by decide) ?_
  refine w_irem dX9_tellNumber_69 (by decide) ?_
  refine w_iadd dX9_tellNumber_70 ?_
  refine w_v1 (d2 := 0) (L2 := 0) dX9_tellNumber_71 vX9_84 rfl (q.1.lt (by decide)) rfl (by decide) (Nat.le_of_ble_eq_true rfl) (by decide) (by decide) ?_
  refine T_addL f q (fun h1 f1 q1 => ?_)
  refine k_v rfl ?_
  refine w_iload_n dX9_tellNumber_74 rfl rfl ?_
  refine w_bipush dX9_tellNumber_75 (v := 10) (by decide) ?_
  refine w_idiv dX9_tellNumber_77 (by decide) ?_
  rw [show (1000 : Int32) / 10 = 100 from by decide]
  refine w_istore_n dX9_tellNumber_78 rfl (by decide) ?_
  refine w_goto (tgt := 54) dX9_tellNumber_79 (by decide) ?_
  refine w_iload_n dX9_tellNumber_54 rfl rfl ?_
  refine w_if_le (tgt := 82) dX9_tellNumber_55 (by decide) (fun c_55 => absurd c_55 (by decide)) (fun c_55 => ?_)
  refine w_aload_n dX9_tellNumber_58 rfl rfl ?_
  refine w_gs (b := 23) q1.1 dX9_tellNumber_59 fX9_14 (by decide) rfl rfl (by decide) ?_
  refine w_bipush dX9_tellNumber_62 (v := 48) (by decide) ?_
  refine w_iload_n dX9_tellNumber_64 rfl rfl ?_
  refine w_iload_n dX9_tellNumber_65 rfl rfl ?_
  refine w_idiv dX9_tellNumber_66 (by decide) ?_
  refine w_bipush dX9_tellNumber_67 (v := 10) (by decide) ?_
  refine w_irem dX9_tellNumber_69 (by decide) ?_
  refine w_iadd dX9_tellNumber_70 ?_
  refine w_v1 (d2 := 0) (L2 := 0) dX9_tellNumber_71 vX9_84 rfl (q1.1.lt (by decide)) rfl (by decide) (Nat.le_of_ble_eq_true rfl) (by decide) (by decide) ?_
  refine T_addL f1 q1 (fun h2 f2 q2 => ?_)
  refine k_v rfl ?_
  refine w_iload_n dX9_tellNumber_74 rfl rfl ?_
  refine w_bipush dX9_tellNumber_75 (v := 10) (by decide) ?_
  refine w_idiv dX9_tellNumber_77 (by decide) ?_
  rw [show (100 : Int32) / 10 = 10 from by decide]
  refine w_istore_n dX9_tellNumber_78 rfl (by decide) ?_
  refine w_goto (tgt := 54) dX9_tellNumber_79 (by decide) ?_
  refine w_iload_n dX9_tellNumber_54 rfl rfl ?_
  refine w_if_le (tgt := 82) dX9_tellNumber_55 (by decide) (fun c_55 => absurd c_55 (by decide)) (fun c_55 => ?_)
  refine w_aload_n dX9_tellNumber_58 rfl rfl ?_
  refine w_gs (b := 23) q2.1 dX9_tellNumber_59 fX9_14 (by decide) rfl rfl (by decide) ?_
  refine w_bipush dX9_tellNumber_62 (v := 48) (by decide) ?_
  refine w_iload_n dX9_tellNumber_64 rfl rfl ?_
  refine w_iload_n dX9_tellNumber_65 rfl rfl ?_
  refine w_idiv dX9_tellNumber_66 (by decide) ?_
  refine w_bipush dX9_tellNumber_67 (v := 10) (by decide) ?_
  refine w_irem dX9_tellNumber_69 (by decide) ?_
  refine w_iadd dX9_tellNumber_70 ?_
  refine w_v1 (d2 := 0) (L2 := 0) dX9_tellNumber_71 vX9_84 rfl (q2.1.lt (by decide)) rfl (by decide) (Nat.le_of_ble_eq_true rfl) (by decide) (by decide) ?_
  refine T_addL f2 q2 (fun h3 f3 q3 => ?_)
  refine k_v rfl ?_
  refine w_iload_n dX9_tellNumber_74 rfl rfl ?_
  refine w_bipush dX9_tellNumber_75 (v := 10) (by decide) ?_
  refine w_idiv dX9_tellNumber_77 (by decide) ?_
  rw [show (10 : Int32) / 10 = 1 from by decide]
  refine w_istore_n dX9_tellNumber_78 rfl (by decide) ?_
  refine w_goto (tgt := 54) dX9_tellNumber_79 (by decide) ?_
  refine w_iload_n dX9_tellNumber_54 rfl rfl ?_
  refine w_if_le (tgt := 82) dX9_tellNumber_55 (by decide) (fun c_55 => absurd c_55 (by decide)) (fun c_55 => ?_)
  refine w_aload_n dX9_tellNumber_58 rfl rfl ?_
  refine w_gs (b := 23) q3.1 dX9_tellNumber_59 fX9_14 (by decide) rfl rfl (by decide) ?_
  refine w_bipush dX9_tellNumber_62 (v := 48) (by decide) ?_
  refine w_iload_n dX9_tellNumber_64 rfl rfl ?_
  refine w_iload_n dX9_tellNumber_65 rfl rfl ?_
  refine w_idiv dX9_tellNumber_66 (by decide) ?_
  refine w_bipush dX9_tellNumber_67 (v := 10) (by decide) ?_
  refine w_irem dX9_tellNumber_69 (by decide) ?_
  refine w_iadd dX9_tellNumber_70 ?_
  refine w_v1 (d2 := 0) (L2 := 0) dX9_tellNumber_71 vX9_84 rfl (q3.1.lt (by decide)) rfl (by decide) (Nat.le_of_ble_eq_true rfl) (by decide) (by decide) ?_
  refine T_addL f3 q3 (fun h4 f4 q4 => ?_)
  refine k_v rfl ?_
  refine w_iload_n dX9_tellNumber_74 rfl rfl ?_
  refine w_bipush dX9_tellNumber_75 (v := 10) (by decide) ?_
  refine w_idiv dX9_tellNumber_77 (by decide) ?_
  rw [show (1 : Int32) / 10 = 0 from by decide]
  refine w_istore_n dX9_tellNumber_78 rfl (by decide) ?_
  refine w_goto (tgt := 54) dX9_tellNumber_79 (by decide) ?_
  refine w_iload_n dX9_tellNumber_54 rfl rfl ?_
  refine w_if_le (tgt := 82) dX9_tellNumber_55 (by decide) (fun c_55 => ?_) (fun c_55 => absurd c_55 (by decide))
  refine w_vret dX9_tellNumber_82 ?_
  exact k _ f4 q4

theorem kR_46 : (RX9, 46, " ", 1001000) ∈ kR := by decide +kernel
theorem kR_48 : (RX9, 48, ", ", 1001001) ∈ kR := by decide +kernel
theorem kR_87 : (RX9, 87, "#-", 1001002) ∈ kR := by decide +kernel
theorem kR_89 : (RX9, 89, "#", 1001003) ∈ kR := by decide +kernel
theorem kR_91 : (RX9, 91, "0123456789ABCDEF", 1001004) ∈ kR := by decide +kernel
set_option maxRecDepth 20000 in
set_option maxHeartbeats 4000000 in
theorem T_tnW {X : Nat × (Nat → Int32)} {h0 h : PH} {Q : Option Value → PH → Prop} {L : List Int32} {v : Int32} (f : Sm [23, 24] h0 h) (q : LC h L) (k : ∀ h', Sm [23, 24] h0 h' → LC h' (adB L (nvC v)) → Q none h') : WP X mX9_tellNumber 5 107 0 (en 4 [.ref 22, .int v]) [] h Q := by
  refine w_aload_n dX9_tellNumber_0 rfl rfl ?_
  refine w_gs (b := 23) q.1 dX9_tellNumber_1 fX9_14 (by decide) rfl rfl (by decide) ?_
  refine w_iload_n dX9_tellNumber_4 rfl rfl ?_
  refine w_if_ge (tgt := 13) dX9_tellNumber_5 (by decide) (fun c_5 => ?_) (fun c_5 => ?_)
  · refine w_ldcS (id := 1001003) dX9_tellNumber_13 kR_89 ?_
    refine w_v1 (d2 := 4) (L2 := 85) dX9_tellNumber_15 vX9_33 rfl (q.1.lt (by decide)) rfl (by decide) (Nat.le_of_ble_eq_true rfl) (by decide) (by decide) ?_
    refine T_atx (j := 3) (by decide) f q (fun h1 f1 q1 => ?_)
    refine k_v rfl ?_
    refine w_iload_n dX9_tellNumber_18 rfl rfl ?_
    refine w_if_ge (tgt := 27) dX9_tellNumber_19 (by decide) (fun c_19 => ?_) (fun c_19 => absurd c_19 (not_not_intro c_5))
    refine w_iload_n dX9_tellNumber_27 rfl rfl ?_
    refine w_istore_n dX9_tellNumber_28 rfl (by decide) ?_
    refine w_iconst dX9_tellNumber_29 (v := 1) (by decide) ?_
    refine w_istore_n dX9_tellNumber_30 rfl (by decide) ?_
    rw [show nvC v = 35 :: dgC v from if_neg (Int32.not_lt.mpr c_5)] at k
    refine w_iload_n dX9_tellNumber_31 rfl rfl ?_
    refine w_sipush dX9_tellNumber_32 (v := 1000) (by decide) ?_
    refine w_icmp_ge (tgt := 54) dX9_tellNumber_35 (by decide) (fun c_35 => absurd c_35 (by decide)) (fun c_35 => ?_)
    refine w_iload_n dX9_tellNumber_38 rfl rfl ?_
    refine w_bipush dX9_tellNumber_39 (v := 10) (by decide) ?_
    refine w_imul dX9_tellNumber_41 ?_
    rw [show (1 : Int32) * 10 = 10 from by decide]
    refine w_iload_n dX9_tellNumber_42 rfl rfl ?_
    by_cases g1 : v < 10
    · refine w_icmp_gt (tgt := 54) dX9_tellNumber_43 (by decide) (fun _ => ?_) (fun c => absurd g1 c)
      exact L_ud1 f1 q1 (fun h9 f9 q9 => k h9 f9 (by unfold dgC; rw [if_pos g1]; exact q9))
    refine w_icmp_gt (tgt := 54) dX9_tellNumber_43 (by decide) (fun c => absurd c g1) (fun _ => ?_)
    refine w_iload_n dX9_tellNumber_46 rfl rfl ?_
    refine w_bipush dX9_tellNumber_47 (v := 10) (by decide) ?_
    refine w_imul dX9_tellNumber_49 ?_
    rw [show (1 : Int32) * 10 = 10 from by decide]
    refine w_istore_n dX9_tellNumber_50 rfl (by decide) ?_
    refine w_goto (tgt := 31) dX9_tellNumber_51 (by decide) ?_
    refine w_iload_n dX9_tellNumber_31 rfl rfl ?_
    refine w_sipush dX9_tellNumber_32 (v := 1000) (by decide) ?_
    refine w_icmp_ge (tgt := 54) dX9_tellNumber_35 (by decide) (fun c_35 => absurd c_35 (by decide)) (fun c_35 => ?_)
    refine w_iload_n dX9_tellNumber_38 rfl rfl ?_
    refine w_bipush dX9_tellNumber_39 (v := 10) (by decide) ?_
    refine w_imul dX9_tellNumber_41 ?_
    rw [show (10 : Int32) * 10 = 100 from by decide]
    refine w_iload_n dX9_tellNumber_42 rfl rfl ?_
    by_cases g2 : v < 100
    · refine w_icmp_gt (tgt := 54) dX9_tellNumber_43 (by decide) (fun _ => ?_) (fun c => absurd g2 c)
      exact L_ud10 f1 q1 (fun h9 f9 q9 => k h9 f9 (by unfold dgC; rw [if_neg g1, if_pos g2]; exact q9))
    refine w_icmp_gt (tgt := 54) dX9_tellNumber_43 (by decide) (fun c => absurd c g2) (fun _ => ?_)
    refine w_iload_n dX9_tellNumber_46 rfl rfl ?_
    refine w_bipush dX9_tellNumber_47 (v := 10) (by decide) ?_
    refine w_imul dX9_tellNumber_49 ?_
    rw [show (10 : Int32) * 10 = 100 from by decide]
    refine w_istore_n dX9_tellNumber_50 rfl (by decide) ?_
    refine w_goto (tgt := 31) dX9_tellNumber_51 (by decide) ?_
    refine w_iload_n dX9_tellNumber_31 rfl rfl ?_
    refine w_sipush dX9_tellNumber_32 (v := 1000) (by decide) ?_
    refine w_icmp_ge (tgt := 54) dX9_tellNumber_35 (by decide) (fun c_35 => absurd c_35 (by decide)) (fun c_35 => ?_)
    refine w_iload_n dX9_tellNumber_38 rfl rfl ?_
    refine w_bipush dX9_tellNumber_39 (v := 10) (by decide) ?_
    refine w_imul dX9_tellNumber_41 ?_
    rw [show (100 : Int32) * 10 = 1000 from by decide]
    refine w_iload_n dX9_tellNumber_42 rfl rfl ?_
    by_cases g3 : v < 1000
    · refine w_icmp_gt (tgt := 54) dX9_tellNumber_43 (by decide) (fun _ => ?_) (fun c => absurd g3 c)
      exact L_ud100 f1 q1 (fun h9 f9 q9 => k h9 f9 (by unfold dgC; rw [if_neg g1, if_neg g2, if_pos g3]; exact q9))
    refine w_icmp_gt (tgt := 54) dX9_tellNumber_43 (by decide) (fun c => absurd c g3) (fun _ => ?_)
    refine w_iload_n dX9_tellNumber_46 rfl rfl ?_
    refine w_bipush dX9_tellNumber_47 (v := 10) (by decide) ?_
    refine w_imul dX9_tellNumber_49 ?_
    rw [show (100 : Int32) * 10 = 1000 from by decide]
    refine w_istore_n dX9_tellNumber_50 rfl (by decide) ?_
    refine w_goto (tgt := 31) dX9_tellNumber_51 (by decide) ?_
    refine w_iload_n dX9_tellNumber_31 rfl rfl ?_
    refine w_sipush dX9_tellNumber_32 (v := 1000) (by decide) ?_
    refine w_icmp_ge (tgt := 54) dX9_tellNumber_35 (by decide) (fun c_35 => ?_) (fun c_35 => absurd (by decide) c_35)
    exact L_ud1000 f1 q1 (fun h9 f9 q9 => k h9 f9 (by unfold dgC; rw [if_neg g1, if_neg g2, if_neg g3]; exact q9))
  · refine w_ldcS (id := 1001002) dX9_tellNumber_8 kR_87 ?_
    refine w_goto (tgt := 15) dX9_tellNumber_10 (by decide) ?_
    refine w_v1 (d2 := 4) (L2 := 85) dX9_tellNumber_15 vX9_33 rfl (q.1.lt (by decide)) rfl (by decide) (Nat.le_of_ble_eq_true rfl) (by decide) (by decide) ?_
    refine T_atx (j := 2) (by decide) f q (fun h2 f2 q2 => ?_)
    refine k_v rfl ?_
    refine w_iload_n dX9_tellNumber_18 rfl rfl ?_
    refine w_if_ge (tgt := 27) dX9_tellNumber_19 (by decide) (fun c_19 => absurd c_19 c_5) (fun c_19 => ?_)
    refine w_iload_n dX9_tellNumber_22 rfl rfl ?_
    refine w_ineg dX9_tellNumber_23 ?_
    refine w_goto (tgt := 28) dX9_tellNumber_24 (by decide) ?_
    refine w_istore_n dX9_tellNumber_28 rfl (by decide) ?_
    refine w_iconst dX9_tellNumber_29 (v := 1) (by decide) ?_
    refine w_istore_n dX9_tellNumber_30 rfl (by decide) ?_
    rw [show nvC v = 35 :: 45 :: dgC (-v) from if_pos (Int32.not_le.mp c_5)] at k
    refine w_iload_n dX9_tellNumber_31 rfl rfl ?_
    refine w_sipush dX9_tellNumber_32 (v := 1000) (by decide) ?_
    refine w_icmp_ge (tgt := 54) dX9_tellNumber_35 (by decide) (fun c_35 => absurd c_35 (by decide)) (fun c_35 => ?_)
    refine w_iload_n dX9_tellNumber_38 rfl rfl ?_
    refine w_bipush dX9_tellNumber_39 (v := 10) (by decide) ?_
    refine w_imul dX9_tellNumber_41 ?_
    rw [show (1 : Int32) * 10 = 10 from by decide]
    refine w_iload_n dX9_tellNumber_42 rfl rfl ?_
    by_cases g1 : (-v) < 10
    · refine w_icmp_gt (tgt := 54) dX9_tellNumber_43 (by decide) (fun _ => ?_) (fun c => absurd g1 c)
      exact L_ud1 f2 q2 (fun h9 f9 q9 => k h9 f9 (by unfold dgC; rw [if_pos g1]; exact q9))
    refine w_icmp_gt (tgt := 54) dX9_tellNumber_43 (by decide) (fun c => absurd c g1) (fun _ => ?_)
    refine w_iload_n dX9_tellNumber_46 rfl rfl ?_
    refine w_bipush dX9_tellNumber_47 (v := 10) (by decide) ?_
    refine w_imul dX9_tellNumber_49 ?_
    rw [show (1 : Int32) * 10 = 10 from by decide]
    refine w_istore_n dX9_tellNumber_50 rfl (by decide) ?_
    refine w_goto (tgt := 31) dX9_tellNumber_51 (by decide) ?_
    refine w_iload_n dX9_tellNumber_31 rfl rfl ?_
    refine w_sipush dX9_tellNumber_32 (v := 1000) (by decide) ?_
    refine w_icmp_ge (tgt := 54) dX9_tellNumber_35 (by decide) (fun c_35 => absurd c_35 (by decide)) (fun c_35 => ?_)
    refine w_iload_n dX9_tellNumber_38 rfl rfl ?_
    refine w_bipush dX9_tellNumber_39 (v := 10) (by decide) ?_
    refine w_imul dX9_tellNumber_41 ?_
    rw [show (10 : Int32) * 10 = 100 from by decide]
    refine w_iload_n dX9_tellNumber_42 rfl rfl ?_
    by_cases g2 : (-v) < 100
    · refine w_icmp_gt (tgt := 54) dX9_tellNumber_43 (by decide) (fun _ => ?_) (fun c => absurd g2 c)
      exact L_ud10 f2 q2 (fun h9 f9 q9 => k h9 f9 (by unfold dgC; rw [if_neg g1, if_pos g2]; exact q9))
    refine w_icmp_gt (tgt := 54) dX9_tellNumber_43 (by decide) (fun c => absurd c g2) (fun _ => ?_)
    refine w_iload_n dX9_tellNumber_46 rfl rfl ?_
    refine w_bipush dX9_tellNumber_47 (v := 10) (by decide) ?_
    refine w_imul dX9_tellNumber_49 ?_
    rw [show (10 : Int32) * 10 = 100 from by decide]
    refine w_istore_n dX9_tellNumber_50 rfl (by decide) ?_
    refine w_goto (tgt := 31) dX9_tellNumber_51 (by decide) ?_
    refine w_iload_n dX9_tellNumber_31 rfl rfl ?_
    refine w_sipush dX9_tellNumber_32 (v := 1000) (by decide) ?_
    refine w_icmp_ge (tgt := 54) dX9_tellNumber_35 (by decide) (fun c_35 => absurd c_35 (by decide)) (fun c_35 => ?_)
    refine w_iload_n dX9_tellNumber_38 rfl rfl ?_
    refine w_bipush dX9_tellNumber_39 (v := 10) (by decide) ?_
    refine w_imul dX9_tellNumber_41 ?_
    rw [show (100 : Int32) * 10 = 1000 from by decide]
    refine w_iload_n dX9_tellNumber_42 rfl rfl ?_
    by_cases g3 : (-v) < 1000
    · refine w_icmp_gt (tgt := 54) dX9_tellNumber_43 (by decide) (fun _ => ?_) (fun c => absurd g3 c)
      exact L_ud100 f2 q2 (fun h9 f9 q9 => k h9 f9 (by unfold dgC; rw [if_neg g1, if_neg g2, if_pos g3]; exact q9))
    refine w_icmp_gt (tgt := 54) dX9_tellNumber_43 (by decide) (fun c => absurd c g3) (fun _ => ?_)
    refine w_iload_n dX9_tellNumber_46 rfl rfl ?_
    refine w_bipush dX9_tellNumber_47 (v := 10) (by decide) ?_
    refine w_imul dX9_tellNumber_49 ?_
    rw [show (100 : Int32) * 10 = 1000 from by decide]
    refine w_istore_n dX9_tellNumber_50 rfl (by decide) ?_
    refine w_goto (tgt := 31) dX9_tellNumber_51 (by decide) ?_
    refine w_iload_n dX9_tellNumber_31 rfl rfl ?_
    refine w_sipush dX9_tellNumber_32 (v := 1000) (by decide) ?_
    refine w_icmp_ge (tgt := 54) dX9_tellNumber_35 (by decide) (fun c_35 => ?_) (fun c_35 => absurd (by decide) c_35)
    exact L_ud1000 f2 q2 (fun h9 f9 q9 => k h9 f9 (by unfold dgC; rw [if_neg g1, if_neg g2, if_neg g3]; exact q9))

set_option maxRecDepth 20000 in
set_option maxHeartbeats 4000000 in
theorem T_thx2 {X : Nat × (Nat → Int32)} {h0 h : PH} {Q : Option Value → PH → Prop} {L : List Int32} {v : Int32} (f : Sm [23, 24] h0 h) (q : LC h L) (k : ∀ h', Sm [23, 24] h0 h' → LC h' (adB L (hx2 v)) → Q none h') : WP X mX9_tellHexadecimals 4 85 0 (en 4 [.ref 22, .int v, .int 2]) [] h Q := by
  refine w_aload_n dX9_tellHexadecimals_0 rfl rfl ?_
  refine w_gs (b := 23) q.1 dX9_tellHexadecimals_1 fX9_14 (by decide) rfl rfl (by decide) ?_
  refine w_bipush dX9_tellHexadecimals_4 (v := 120) (by decide) ?_
  refine w_v1 (d2 := 0) (L2 := 0) dX9_tellHexadecimals_6 vX9_84 rfl (q.1.lt (by decide)) rfl (by decide) (Nat.le_of_ble_eq_true rfl) (by decide) (by decide) ?_
  refine T_addL f q (fun h1 f1 q1 => ?_)
  refine k_v rfl ?_
  refine w_iload_n dX9_tellHexadecimals_9 rfl rfl ?_
  refine w_iconst dX9_tellHexadecimals_10 (v := 1) (by decide) ?_
  refine w_isub dX9_tellHexadecimals_11 ?_
  rw [show (2 : Int32) - 1 = 1 from by decide]
  refine w_istore_n dX9_tellHexadecimals_12 rfl (by decide) ?_
  refine w_iload_n dX9_tellHexadecimals_13 rfl rfl ?_
  refine w_if_lt (tgt := 43) dX9_tellHexadecimals_14 (by decide) (fun c_14 => absurd c_14 (by decide)) (fun c_14 => ?_)
  refine w_aload_n dX9_tellHexadecimals_17 rfl rfl ?_
  refine w_gs (b := 23) q1.1 dX9_tellHexadecimals_18 fX9_14 (by decide) rfl rfl (by decide) ?_
  refine w_ldcS (id := 1001004) dX9_tellHexadecimals_21 kR_91 ?_
  refine w_iload_n dX9_tellHexadecimals_23 rfl rfl ?_
  refine w_iconst dX9_tellHexadecimals_24 (v := 4) (by decide) ?_
  refine w_iload_n dX9_tellHexadecimals_25 rfl rfl ?_
  refine w_imul dX9_tellHexadecimals_26 ?_
  refine w_ishr dX9_tellHexadecimals_27 ?_
  refine w_bipush dX9_tellHexadecimals_28 (v := 15) (by decide) ?_
  refine w_iand dX9_tellHexadecimals_30 ?_
  obtain ⟨j1, hj1, ej1⟩ := pk_andE (v >>> ((4 * 1 : Int32) &&& 31)) (m := 15) 4 (by decide)
  refine w_callC (d2 := 3) (L2 := 64) (M2 := mJ0_charAt_5068e) (As := [.int (nI j1)]) dX9_tellHexadecimals_31 oJ0_charAt_5068e lX9_50 iJ0_charAt_5068e sJ0_charAt_5068e (kO_s9 (i := 4) (by decide)) (by rw [ej1]; rfl) rfl (fun v hv => by simp only [List.mem_cons, List.not_mem_nil, or_false] at hv; rw [hv]; rfl) (Nat.le_of_ble_eq_true rfl) (Nat.le_of_ble_eq_true rfl) (by decide) (by decide) ?_
  refine T_char (j := 4) (i := j1) (by decide) (by show j1 < 16; omega) ?_
  refine k_i rfl ?_
  rw [show (sB 4).getD j1 0 = hxD v 1 from by unfold hxD; rw [ej1, nI_clamp (by omega)]]
  refine w_v1 (d2 := 0) (L2 := 0) dX9_tellHexadecimals_34 vX9_84 rfl (q1.1.lt (by decide)) rfl (by decide) (Nat.le_of_ble_eq_true rfl) (by decide) (by decide) ?_
  refine T_addL f1 q1 (fun h2 f2 q2 => ?_)
  refine k_v rfl ?_
  refine w_iinc (v := 0) dX9_tellHexadecimals_37 rfl (by decide) (by decide) ?_
  refine w_goto (tgt := 13) dX9_tellHexadecimals_40 (by decide) ?_
  refine w_iload_n dX9_tellHexadecimals_13 rfl rfl ?_
  refine w_if_lt (tgt := 43) dX9_tellHexadecimals_14 (by decide) (fun c_14 => absurd c_14 (by decide)) (fun c_14 => ?_)
  refine w_aload_n dX9_tellHexadecimals_17 rfl rfl ?_
  refine w_gs (b := 23) q2.1 dX9_tellHexadecimals_18 fX9_14 (by decide) rfl rfl (by decide) ?_
  refine w_ldcS (id := 1001004) dX9_tellHexadecimals_21 kR_91 ?_
  refine w_iload_n dX9_tellHexadecimals_23 rfl rfl ?_
  refine w_iconst dX9_tellHexadecimals_24 (v := 4) (by decide) ?_
  refine w_iload_n dX9_tellHexadecimals_25 rfl rfl ?_
  refine w_imul dX9_tellHexadecimals_26 ?_
  refine w_ishr dX9_tellHexadecimals_27 ?_
  refine w_bipush dX9_tellHexadecimals_28 (v := 15) (by decide) ?_
  refine w_iand dX9_tellHexadecimals_30 ?_
  obtain ⟨j0, hj0, ej0⟩ := pk_andE (v >>> ((4 * 0 : Int32) &&& 31)) (m := 15) 4 (by decide)
  refine w_callC (d2 := 3) (L2 := 64) (M2 := mJ0_charAt_5068e) (As := [.int (nI j0)]) dX9_tellHexadecimals_31 oJ0_charAt_5068e lX9_50 iJ0_charAt_5068e sJ0_charAt_5068e (kO_s9 (i := 4) (by decide)) (by rw [ej0]; rfl) rfl (fun v hv => by simp only [List.mem_cons, List.not_mem_nil, or_false] at hv; rw [hv]; rfl) (Nat.le_of_ble_eq_true rfl) (Nat.le_of_ble_eq_true rfl) (by decide) (by decide) ?_
  refine T_char (j := 4) (i := j0) (by decide) (by show j0 < 16; omega) ?_
  refine k_i rfl ?_
  rw [show (sB 4).getD j0 0 = hxD v 0 from by unfold hxD; rw [ej0, nI_clamp (by omega)]]
  refine w_v1 (d2 := 0) (L2 := 0) dX9_tellHexadecimals_34 vX9_84 rfl (q2.1.lt (by decide)) rfl (by decide) (Nat.le_of_ble_eq_true rfl) (by decide) (by decide) ?_
  refine T_addL f2 q2 (fun h3 f3 q3 => ?_)
  refine k_v rfl ?_
  refine w_iinc (v := (-1)) dX9_tellHexadecimals_37 rfl (by decide) (by decide) ?_
  refine w_goto (tgt := 13) dX9_tellHexadecimals_40 (by decide) ?_
  refine w_iload_n dX9_tellHexadecimals_13 rfl rfl ?_
  refine w_if_lt (tgt := 43) dX9_tellHexadecimals_14 (by decide) (fun c_14 => ?_) (fun c_14 => absurd c_14 (by decide))
  refine w_vret dX9_tellHexadecimals_43 ?_
  exact k _ f3 q3

set_option maxRecDepth 20000 in
set_option maxHeartbeats 4000000 in
theorem T_thx4 {X : Nat × (Nat → Int32)} {h0 h : PH} {Q : Option Value → PH → Prop} {L : List Int32} {v : Int32} (f : Sm [23, 24] h0 h) (q : LC h L) (k : ∀ h', Sm [23, 24] h0 h' → LC h' (adB L (hx4 v)) → Q none h') : WP X mX9_tellHexadecimals 4 85 0 (en 4 [.ref 22, .int v, .int 4]) [] h Q := by
  refine w_aload_n dX9_tellHexadecimals_0 rfl rfl ?_
  refine w_gs (b := 23) q.1 dX9_tellHexadecimals_1 fX9_14 (by decide) rfl rfl (by decide) ?_
  refine w_bipush dX9_tellHexadecimals_4 (v := 120) (by decide) ?_
  refine w_v1 (d2 := 0) (L2 := 0) dX9_tellHexadecimals_6 vX9_84 rfl (q.1.lt (by decide)) rfl (by decide) (Nat.le_of_ble_eq_true rfl) (by decide) (by decide) ?_
  refine T_addL f q (fun h1 f1 q1 => ?_)
  refine k_v rfl ?_
  refine w_iload_n dX9_tellHexadecimals_9 rfl rfl ?_
  refine w_iconst dX9_tellHexadecimals_10 (v := 1) (by decide) ?_
  refine w_isub dX9_tellHexadecimals_11 ?_
  rw [show (4 : Int32) - 1 = 3 from by decide]
  refine w_istore_n dX9_tellHexadecimals_12 rfl (by decide) ?_
  refine w_iload_n dX9_tellHexadecimals_13 rfl rfl ?_
  refine w_if_lt (tgt := 43) dX9_tellHexadecimals_14 (by decide) (fun c_14 => absurd c_14 (by decide)) (fun c_14 => ?_)
  refine w_aload_n dX9_tellHexadecimals_17 rfl rfl ?_
  refine w_gs (b := 23) q1.1 dX9_tellHexadecimals_18 fX9_14 (by decide) rfl rfl (by decide) ?_
  refine w_ldcS (id := 1001004) dX9_tellHexadecimals_21 kR_91 ?_
  refine w_iload_n dX9_tellHexadecimals_23 rfl rfl ?_
  refine w_iconst dX9_tellHexadecimals_24 (v := 4) (by decide) ?_
  refine w_iload_n dX9_tellHexadecimals_25 rfl rfl ?_
  refine w_imul dX9_tellHexadecimals_26 ?_
  refine w_ishr dX9_tellHexadecimals_27 ?_
  refine w_bipush dX9_tellHexadecimals_28 (v := 15) (by decide) ?_
  refine w_iand dX9_tellHexadecimals_30 ?_
  obtain ⟨j3, hj3, ej3⟩ := pk_andE (v >>> ((4 * 3 : Int32) &&& 31)) (m := 15) 4 (by decide)
  refine w_callC (d2 := 3) (L2 := 64) (M2 := mJ0_charAt_5068e) (As := [.int (nI j3)]) dX9_tellHexadecimals_31 oJ0_charAt_5068e lX9_50 iJ0_charAt_5068e sJ0_charAt_5068e (kO_s9 (i := 4) (by decide)) (by rw [ej3]; rfl) rfl (fun v hv => by simp only [List.mem_cons, List.not_mem_nil, or_false] at hv; rw [hv]; rfl) (Nat.le_of_ble_eq_true rfl) (Nat.le_of_ble_eq_true rfl) (by decide) (by decide) ?_
  refine T_char (j := 4) (i := j3) (by decide) (by show j3 < 16; omega) ?_
  refine k_i rfl ?_
  rw [show (sB 4).getD j3 0 = hxD v 3 from by unfold hxD; rw [ej3, nI_clamp (by omega)]]
  refine w_v1 (d2 := 0) (L2 := 0) dX9_tellHexadecimals_34 vX9_84 rfl (q1.1.lt (by decide)) rfl (by decide) (Nat.le_of_ble_eq_true rfl) (by decide) (by decide) ?_
  refine T_addL f1 q1 (fun h2 f2 q2 => ?_)
  refine k_v rfl ?_
  refine w_iinc (v := 2) dX9_tellHexadecimals_37 rfl (by decide) (by decide) ?_
  refine w_goto (tgt := 13) dX9_tellHexadecimals_40 (by decide) ?_
  refine w_iload_n dX9_tellHexadecimals_13 rfl rfl ?_
  refine w_if_lt (tgt := 43) dX9_tellHexadecimals_14 (by decide) (fun c_14 => absurd c_14 (by decide)) (fun c_14 => ?_)
  refine w_aload_n dX9_tellHexadecimals_17 rfl rfl ?_
  refine w_gs (b := 23) q2.1 dX9_tellHexadecimals_18 fX9_14 (by decide) rfl rfl (by decide) ?_
  refine w_ldcS (id := 1001004) dX9_tellHexadecimals_21 kR_91 ?_
  refine w_iload_n dX9_tellHexadecimals_23 rfl rfl ?_
  refine w_iconst dX9_tellHexadecimals_24 (v := 4) (by decide) ?_
  refine w_iload_n dX9_tellHexadecimals_25 rfl rfl ?_
  refine w_imul dX9_tellHexadecimals_26 ?_
  refine w_ishr dX9_tellHexadecimals_27 ?_
  refine w_bipush dX9_tellHexadecimals_28 (v := 15) (by decide) ?_
  refine w_iand dX9_tellHexadecimals_30 ?_
  obtain ⟨j2, hj2, ej2⟩ := pk_andE (v >>> ((4 * 2 : Int32) &&& 31)) (m := 15) 4 (by decide)
  refine w_callC (d2 := 3) (L2 := 64) (M2 := mJ0_charAt_5068e) (As := [.int (nI j2)]) dX9_tellHexadecimals_31 oJ0_charAt_5068e lX9_50 iJ0_charAt_5068e sJ0_charAt_5068e (kO_s9 (i := 4) (by decide)) (by rw [ej2]; rfl) rfl (fun v hv => by simp only [List.mem_cons, List.not_mem_nil, or_false] at hv; rw [hv]; rfl) (Nat.le_of_ble_eq_true rfl) (Nat.le_of_ble_eq_true rfl) (by decide) (by decide) ?_
  refine T_char (j := 4) (i := j2) (by decide) (by show j2 < 16; omega) ?_
  refine k_i rfl ?_
  rw [show (sB 4).getD j2 0 = hxD v 2 from by unfold hxD; rw [ej2, nI_clamp (by omega)]]
  refine w_v1 (d2 := 0) (L2 := 0) dX9_tellHexadecimals_34 vX9_84 rfl (q2.1.lt (by decide)) rfl (by decide) (Nat.le_of_ble_eq_true rfl) (by decide) (by decide) ?_
  refine T_addL f2 q2 (fun h3 f3 q3 => ?_)
  refine k_v rfl ?_
  refine w_iinc (v := 1) dX9_tellHexadecimals_37 rfl (by decide) (by decide) ?_
  refine w_goto (tgt := 13) dX9_tellHexadecimals_40 (by decide) ?_
  refine w_iload_n dX9_tellHexadecimals_13 rfl rfl ?_
  refine w_if_lt (tgt := 43) dX9_tellHexadecimals_14 (by decide) (fun c_14 => absurd c_14 (by decide)) (fun c_14 => ?_)
  refine w_aload_n dX9_tellHexadecimals_17 rfl rfl ?_
  refine w_gs (b := 23) q3.1 dX9_tellHexadecimals_18 fX9_14 (by decide) rfl rfl (by decide) ?_
  refine w_ldcS (id := 1001004) dX9_tellHexadecimals_21 kR_91 ?_
  refine w_iload_n dX9_tellHexadecimals_23 rfl rfl ?_
  refine w_iconst dX9_tellHexadecimals_24 (v := 4) (by decide) ?_
  refine w_iload_n dX9_tellHexadecimals_25 rfl rfl ?_
  refine w_imul dX9_tellHexadecimals_26 ?_
  refine w_ishr dX9_tellHexadecimals_27 ?_
  refine w_bipush dX9_tellHexadecimals_28 (v := 15) (by decide) ?_
  refine w_iand dX9_tellHexadecimals_30 ?_
  obtain ⟨j1, hj1, ej1⟩ := pk_andE (v >>> ((4 * 1 : Int32) &&& 31)) (m := 15) 4 (by decide)
  refine w_callC (d2 := 3) (L2 := 64) (M2 := mJ0_charAt_5068e) (As := [.int (nI j1)]) dX9_tellHexadecimals_31 oJ0_charAt_5068e lX9_50 iJ0_charAt_5068e sJ0_charAt_5068e (kO_s9 (i := 4) (by decide)) (by rw [ej1]; rfl) rfl (fun v hv => by simp only [List.mem_cons, List.not_mem_nil, or_false] at hv; rw [hv]; rfl) (Nat.le_of_ble_eq_true rfl) (Nat.le_of_ble_eq_true rfl) (by decide) (by decide) ?_
  refine T_char (j := 4) (i := j1) (by decide) (by show j1 < 16; omega) ?_
  refine k_i rfl ?_
  rw [show (sB 4).getD j1 0 = hxD v 1 from by unfold hxD; rw [ej1, nI_clamp (by omega)]]
  refine w_v1 (d2 := 0) (L2 := 0) dX9_tellHexadecimals_34 vX9_84 rfl (q3.1.lt (by decide)) rfl (by decide) (Nat.le_of_ble_eq_true rfl) (by decide) (by decide) ?_
  refine T_addL f3 q3 (fun h4 f4 q4 => ?_)
  refine k_v rfl ?_
  refine w_iinc (v := 0) dX9_tellHexadecimals_37 rfl (by decide) (by decide) ?_
  refine w_goto (tgt := 13) dX9_tellHexadecimals_40 (by decide) ?_
  refine w_iload_n dX9_tellHexadecimals_13 rfl rfl ?_
  refine w_if_lt (tgt := 43) dX9_tellHexadecimals_14 (by decide) (fun c_14 => absurd c_14 (by decide)) (fun c_14 => ?_)
  refine w_aload_n dX9_tellHexadecimals_17 rfl rfl ?_
  refine w_gs (b := 23) q4.1 dX9_tellHexadecimals_18 fX9_14 (by decide) rfl rfl (by decide) ?_
  refine w_ldcS (id := 1001004) dX9_tellHexadecimals_21 kR_91 ?_
  refine w_iload_n dX9_tellHexadecimals_23 rfl rfl ?_
  refine w_iconst dX9_tellHexadecimals_24 (v := 4) (by decide) ?_
  refine w_iload_n dX9_tellHexadecimals_25 rfl rfl ?_
  refine w_imul dX9_tellHexadecimals_26 ?_
  refine w_ishr dX9_tellHexadecimals_27 ?_
  refine w_bipush dX9_tellHexadecimals_28 (v := 15) (by decide) ?_
  refine w_iand dX9_tellHexadecimals_30 ?_
  obtain ⟨j0, hj0, ej0⟩ := pk_andE (v >>> ((4 * 0 : Int32) &&& 31)) (m := 15) 4 (by decide)
  refine w_callC (d2 := 3) (L2 := 64) (M2 := mJ0_charAt_5068e) (As := [.int (nI j0)]) dX9_tellHexadecimals_31 oJ0_charAt_5068e lX9_50 iJ0_charAt_5068e sJ0_charAt_5068e (kO_s9 (i := 4) (by decide)) (by rw [ej0]; rfl) rfl (fun v hv => by simp only [List.mem_cons, List.not_mem_nil, or_false] at hv; rw [hv]; rfl) (Nat.le_of_ble_eq_true rfl) (Nat.le_of_ble_eq_true rfl) (by decide) (by decide) ?_
  refine T_char (j := 4) (i := j0) (by decide) (by show j0 < 16; omega) ?_
  refine k_i rfl ?_
  rw [show (sB 4).getD j0 0 = hxD v 0 from by unfold hxD; rw [ej0, nI_clamp (by omega)]]
  refine w_v1 (d2 := 0) (L2 := 0) dX9_tellHexadecimals_34 vX9_84 rfl (q4.1.lt (by decide)) rfl (by decide) (Nat.le_of_ble_eq_true rfl) (by decide) (by decide) ?_
  refine T_addL f4 q4 (fun h5 f5 q5 => ?_)
  refine k_v rfl ?_
  refine w_iinc (v := (-1)) dX9_tellHexadecimals_37 rfl (by decide) (by decide) ?_
  refine w_goto (tgt := 13) dX9_tellHexadecimals_40 (by decide) ?_
  refine w_iload_n dX9_tellHexadecimals_13 rfl rfl ?_
  refine w_if_lt (tgt := 43) dX9_tellHexadecimals_14 (by decide) (fun c_14 => ?_) (fun c_14 => absurd c_14 (by decide))
  refine w_vret dX9_tellHexadecimals_43 ?_
  exact k _ f5 q5

