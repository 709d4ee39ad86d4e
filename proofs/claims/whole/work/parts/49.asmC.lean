/-! THE CLASS's ASSEMBLER: statements -/
set_option maxRecDepth 20000 in
set_option maxHeartbeats 4000000 in
theorem T_op65 {X : Nat × (Nat → Int32)} {h0 h : PH} {Q : Option Value → PH → Prop} {T : List Int32} {α : AK} {D : Nat} {s : Nat} (t : TK T s α.2.2) {pl : Nat} {Λ : LbS} (hB : Byt T) (lf : LF D T Λ α) {here : Nat} (eh : α.1 D 4 + α.1 D 2 = nI here) (e7 : α.1 3 7 = 0) (f : Fa D h0 h) (q : RA D h T α) (kE : ∀ e, opS T Λ here 65 s (α.1 3 12) = .inl e → FE D h0 T α Q e s) (kO : ∀ w, opS T Λ here 65 s (α.1 3 12) = .inr w → ∀ h', Fa D h0 h' → RA D h' T (aP α 3 12 w) → Q none h') : WP X mX0_takeOperand 3 69 0 (en 3 [.ref 3, .int 65, .int (nI pl)]) [] h Q := by
  refine w_iload_n dX0_takeOperand_0 rfl rfl ?_
  refine w_tbE (off := 116) (tgt := 117) (show (65 : Int32) = 65 from rfl) dX0_takeOperand_1 (by decide) (by decide) (by decide) (by decide) ?_
  refine w_aload_n dX0_takeOperand_117 rfl rfl ?_
  refine w_bipush dX0_takeOperand_118 (v := 6) (by decide) ?_
  refine w_v1 (d2 := 1) (L2 := 22) dX0_takeOperand_120 vX0_175 rfl (q.1.lt (by decide)) rfl (by decide) (Nat.le_of_ble_eq_true rfl) (by decide) (by decide) ?_
  refine T_treg t e7 f q (fun e e9 hz αz fz qz y1 y2 y3 y4 => ?_) (fun w e9 hz fz qz => ?_)
  · refine k_v rfl ?_
    refine w_goto (tgt := 224) dX0_takeOperand_123 (by decide) ?_
    refine w_vret dX0_takeOperand_224 ?_
    exact kE e e9 _ _ fz qz y1 y2 y3 y4
  · refine k_v rfl ?_
    refine w_goto (tgt := 224) dX0_takeOperand_123 (by decide) ?_
    refine w_vret dX0_takeOperand_224 ?_
    exact kO w e9 _ fz qz

set_option maxRecDepth 20000 in
set_option maxHeartbeats 4000000 in
theorem T_op68 {X : Nat × (Nat → Int32)} {h0 h : PH} {Q : Option Value → PH → Prop} {T : List Int32} {α : AK} {D : Nat} {s : Nat} (t : TK T s α.2.2) {pl : Nat} {Λ : LbS} (hB : Byt T) (lf : LF D T Λ α) {here : Nat} (eh : α.1 D 4 + α.1 D 2 = nI here) (e7 : α.1 3 7 = 0) (f : Fa D h0 h) (q : RA D h T α) (kE : ∀ e, opS T Λ here 68 s (α.1 3 12) = .inl e → FE D h0 T α Q e s) (kO : ∀ w, opS T Λ here 68 s (α.1 3 12) = .inr w → ∀ h', Fa D h0 h' → RA D h' T (aP α 3 12 w) → Q none h') : WP X mX0_takeOperand 3 69 0 (en 3 [.ref 3, .int 68, .int (nI pl)]) [] h Q := by
  refine w_iload_n dX0_takeOperand_0 rfl rfl ?_
  refine w_tbE (off := 107) (tgt := 108) (show (68 : Int32) = 68 from rfl) dX0_takeOperand_1 (by decide) (by decide) (by decide) (by decide) ?_
  refine w_aload_n dX0_takeOperand_108 rfl rfl ?_
  refine w_bipush dX0_takeOperand_109 (v := 9) (by decide) ?_
  refine w_v1 (d2 := 1) (L2 := 22) dX0_takeOperand_111 vX0_175 rfl (q.1.lt (by decide)) rfl (by decide) (Nat.le_of_ble_eq_true rfl) (by decide) (by decide) ?_
  refine T_treg t e7 f q (fun e e9 hz αz fz qz y1 y2 y3 y4 => ?_) (fun w e9 hz fz qz => ?_)
  · refine k_v rfl ?_
    refine w_goto (tgt := 224) dX0_takeOperand_114 (by decide) ?_
    refine w_vret dX0_takeOperand_224 ?_
    exact kE e e9 _ _ fz qz y1 y2 y3 y4
  · refine k_v rfl ?_
    refine w_goto (tgt := 224) dX0_takeOperand_114 (by decide) ?_
    refine w_vret dX0_takeOperand_224 ?_
    exact kO w e9 _ fz qz

set_option maxRecDepth 20000 in
set_option maxHeartbeats 4000000 in
theorem T_op83 {X : Nat × (Nat → Int32)} {h0 h : PH} {Q : Option Value → PH → Prop} {T : List Int32} {α : AK} {D : Nat} {s : Nat} (t : TK T s α.2.2) {pl : Nat} {Λ : LbS} (hB : Byt T) (lf : LF D T Λ α) {here : Nat} (eh : α.1 D 4 + α.1 D 2 = nI here) (e7 : α.1 3 7 = 0) (f : Fa D h0 h) (q : RA D h T α) (kE : ∀ e, opS T Λ here 83 s (α.1 3 12) = .inl e → FE D h0 T α Q e s) (kO : ∀ w, opS T Λ here 83 s (α.1 3 12) = .inr w → ∀ h', Fa D h0 h' → RA D h' T (aP α 3 12 w) → Q none h') : WP X mX0_takeOperand 3 69 0 (en 3 [.ref 3, .int 83, .int (nI pl)]) [] h Q := by
  refine w_iload_n dX0_takeOperand_0 rfl rfl ?_
  refine w_tbE (off := 125) (tgt := 126) (show (83 : Int32) = 83 from rfl) dX0_takeOperand_1 (by decide) (by decide) (by decide) (by decide) ?_
  refine w_aload_n dX0_takeOperand_126 rfl rfl ?_
  refine w_v0 (d2 := 2) (L2 := 45) dX0_takeOperand_127 vX0_178 rfl (q.1.lt (by decide)) (by decide) (Nat.le_of_ble_eq_true rfl) (by decide) (by decide) ?_
  refine T_tsec t e7 f q (fun e e9 hz αz fz qz y1 y2 y3 y4 => ?_) (fun w e9 hz fz qz => ?_)
  · refine k_v rfl ?_
    refine w_goto (tgt := 224) dX0_takeOperand_130 (by decide) ?_
    refine w_vret dX0_takeOperand_224 ?_
    exact kE e e9 _ _ fz qz y1 y2 y3 y4
  · refine k_v rfl ?_
    refine w_goto (tgt := 224) dX0_takeOperand_130 (by decide) ?_
    refine w_vret dX0_takeOperand_224 ?_
    exact kO w e9 _ fz qz

set_option maxRecDepth 20000 in
set_option maxHeartbeats 4000000 in
theorem T_op79 {X : Nat × (Nat → Int32)} {h0 h : PH} {Q : Option Value → PH → Prop} {T : List Int32} {α : AK} {D : Nat} {s : Nat} (t : TK T s α.2.2) {pl : Nat} {Λ : LbS} (hB : Byt T) (lf : LF D T Λ α) {here : Nat} (eh : α.1 D 4 + α.1 D 2 = nI here) (e7 : α.1 3 7 = 0) (f : Fa D h0 h) (q : RA D h T α) (kE : ∀ e, opS T Λ here 79 s (α.1 3 12) = .inl e → FE D h0 T α Q e s) (kO : ∀ w, opS T Λ here 79 s (α.1 3 12) = .inr w → ∀ h', Fa D h0 h' → RA D h' T (aP α 3 12 w) → Q none h') : WP X mX0_takeOperand 3 69 0 (en 3 [.ref 3, .int 79, .int (nI pl)]) [] h Q := by
  refine w_iload_n dX0_takeOperand_0 rfl rfl ?_
  refine w_tbE (off := 132) (tgt := 133) (show (79 : Int32) = 79 from rfl) dX0_takeOperand_1 (by decide) (by decide) (by decide) (by decide) ?_
  refine w_aload_n dX0_takeOperand_133 rfl rfl ?_
  refine w_bipush dX0_takeOperand_134 (v := (-32)) (by decide) ?_
  refine w_bipush dX0_takeOperand_136 (v := 31) (by decide) ?_
  refine w_bipush dX0_takeOperand_138 (v := 63) (by decide) ?_
  refine w_v3 (d2 := 1) (L2 := 22) dX0_takeOperand_140 vX0_181 rfl (q.1.lt (by decide)) rfl rfl rfl (by decide) (Nat.le_of_ble_eq_true rfl) (by decide) (by decide) ?_
  refine T_tnum t e7 f q (fun e e9 hz αz fz qz y1 y2 y3 y4 => ?_) (fun w e9 hz fz qz => ?_)
  · refine k_v rfl ?_
    refine w_goto (tgt := 224) dX0_takeOperand_143 (by decide) ?_
    refine w_vret dX0_takeOperand_224 ?_
    exact kE e e9 _ _ fz qz y1 y2 y3 y4
  · refine k_v rfl ?_
    refine w_goto (tgt := 224) dX0_takeOperand_143 (by decide) ?_
    refine w_vret dX0_takeOperand_224 ?_
    exact kO w e9 _ fz qz

set_option maxRecDepth 20000 in
set_option maxHeartbeats 4000000 in
theorem T_op86 {X : Nat × (Nat → Int32)} {h0 h : PH} {Q : Option Value → PH → Prop} {T : List Int32} {α : AK} {D : Nat} {s : Nat} (t : TK T s α.2.2) {pl : Nat} {Λ : LbS} (hB : Byt T) (lf : LF D T Λ α) {here : Nat} (eh : α.1 D 4 + α.1 D 2 = nI here) (e7 : α.1 3 7 = 0) (f : Fa D h0 h) (q : RA D h T α) (kE : ∀ e, opS T Λ here 86 s (α.1 3 12) = .inl e → FE D h0 T α Q e s) (kO : ∀ w, opS T Λ here 86 s (α.1 3 12) = .inr w → ∀ h', Fa D h0 h' → RA D h' T (aP α 3 12 w) → Q none h') : WP X mX0_takeOperand 3 69 0 (en 3 [.ref 3, .int 86, .int (nI pl)]) [] h Q := by
  refine w_iload_n dX0_takeOperand_0 rfl rfl ?_
  refine w_tbE (off := 145) (tgt := 146) (show (86 : Int32) = 86 from rfl) dX0_takeOperand_1 (by decide) (by decide) (by decide) (by decide) ?_
  refine w_aload_n dX0_takeOperand_146 rfl rfl ?_
  refine w_iconst dX0_takeOperand_147 (v := 0) (by decide) ?_
  refine w_sipush dX0_takeOperand_148 (v := 255) (by decide) ?_
  refine w_sipush dX0_takeOperand_151 (v := 255) (by decide) ?_
  refine w_v3 (d2 := 1) (L2 := 22) dX0_takeOperand_154 vX0_181 rfl (q.1.lt (by decide)) rfl rfl rfl (by decide) (Nat.le_of_ble_eq_true rfl) (by decide) (by decide) ?_
  refine T_tnum t e7 f q (fun e e9 hz αz fz qz y1 y2 y3 y4 => ?_) (fun w e9 hz fz qz => ?_)
  · refine k_v rfl ?_
    refine w_goto (tgt := 224) dX0_takeOperand_157 (by decide) ?_
    refine w_vret dX0_takeOperand_224 ?_
    exact kE e e9 _ _ fz qz y1 y2 y3 y4
  · refine k_v rfl ?_
    refine w_goto (tgt := 224) dX0_takeOperand_157 (by decide) ?_
    refine w_vret dX0_takeOperand_224 ?_
    exact kO w e9 _ fz qz

set_option maxRecDepth 20000 in
set_option maxHeartbeats 4000000 in
theorem T_op87 {X : Nat × (Nat → Int32)} {h0 h : PH} {Q : Option Value → PH → Prop} {T : List Int32} {α : AK} {D : Nat} {s : Nat} (t : TK T s α.2.2) {pl : Nat} {Λ : LbS} (hB : Byt T) (lf : LF D T Λ α) {here : Nat} (eh : α.1 D 4 + α.1 D 2 = nI here) (e7 : α.1 3 7 = 0) (f : Fa D h0 h) (q : RA D h T α) (kE : ∀ e, opS T Λ here 87 s (α.1 3 12) = .inl e → FE D h0 T α Q e s) (kO : ∀ w, opS T Λ here 87 s (α.1 3 12) = .inr w → ∀ h', Fa D h0 h' → RA D h' T (aP α 3 12 w) → Q none h') : WP X mX0_takeOperand 3 69 0 (en 3 [.ref 3, .int 87, .int (nI pl)]) [] h Q := by
  refine w_iload_n dX0_takeOperand_0 rfl rfl ?_
  refine w_tbE (off := 159) (tgt := 160) (show (87 : Int32) = 87 from rfl) dX0_takeOperand_1 (by decide) (by decide) (by decide) (by decide) ?_
  refine w_aload_n dX0_takeOperand_160 rfl rfl ?_
  refine w_bipush dX0_takeOperand_161 (v := 9) (by decide) ?_
  refine w_v1 (d2 := 2) (L2 := 45) dX0_takeOperand_163 vX0_185 rfl (q.1.lt (by decide)) rfl (by decide) (Nat.le_of_ble_eq_true rfl) (by decide) (by decide) ?_
  refine T_twh9 t hB lf eh e7 f q (fun e e9 hz αz fz qz y1 y2 y3 y4 => ?_) (fun w e9 hz fz qz => ?_)
  · refine k_v rfl ?_
    refine w_goto (tgt := 224) dX0_takeOperand_166 (by decide) ?_
    refine w_vret dX0_takeOperand_224 ?_
    exact kE e e9 _ _ fz qz y1 y2 y3 y4
  · refine k_v rfl ?_
    refine w_goto (tgt := 224) dX0_takeOperand_166 (by decide) ?_
    refine w_vret dX0_takeOperand_224 ?_
    exact kO w e9 _ fz qz

set_option maxRecDepth 20000 in
set_option maxHeartbeats 4000000 in
theorem T_op74 {X : Nat × (Nat → Int32)} {h0 h : PH} {Q : Option Value → PH → Prop} {T : List Int32} {α : AK} {D : Nat} {s : Nat} (t : TK T s α.2.2) {pl : Nat} {Λ : LbS} (hB : Byt T) (lf : LF D T Λ α) {here : Nat} (eh : α.1 D 4 + α.1 D 2 = nI here) (e7 : α.1 3 7 = 0) (f : Fa D h0 h) (q : RA D h T α) (kE : ∀ e, opS T Λ here 74 s (α.1 3 12) = .inl e → FE D h0 T α Q e s) (kO : ∀ w, opS T Λ here 74 s (α.1 3 12) = .inr w → ∀ h', Fa D h0 h' → RA D h' T (aP α 3 12 w) → Q none h') : WP X mX0_takeOperand 3 69 0 (en 3 [.ref 3, .int 74, .int (nI pl)]) [] h Q := by
  refine w_iload_n dX0_takeOperand_0 rfl rfl ?_
  refine w_tbE (off := 168) (tgt := 169) (show (74 : Int32) = 74 from rfl) dX0_takeOperand_1 (by decide) (by decide) (by decide) (by decide) ?_
  refine w_aload_n dX0_takeOperand_169 rfl rfl ?_
  refine w_bipush dX0_takeOperand_170 (v := 11) (by decide) ?_
  refine w_v1 (d2 := 2) (L2 := 45) dX0_takeOperand_172 vX0_185 rfl (q.1.lt (by decide)) rfl (by decide) (Nat.le_of_ble_eq_true rfl) (by decide) (by decide) ?_
  refine T_twh11 t hB lf eh e7 f q (fun e e9 hz αz fz qz y1 y2 y3 y4 => ?_) (fun w e9 hz fz qz => ?_)
  · refine k_v rfl ?_
    refine w_goto (tgt := 224) dX0_takeOperand_175 (by decide) ?_
    refine w_vret dX0_takeOperand_224 ?_
    exact kE e e9 _ _ fz qz y1 y2 y3 y4
  · refine k_v rfl ?_
    refine w_goto (tgt := 224) dX0_takeOperand_175 (by decide) ?_
    refine w_vret dX0_takeOperand_224 ?_
    exact kO w e9 _ fz qz

set_option maxRecDepth 20000 in
set_option maxHeartbeats 4000000 in
theorem T_op70 {X : Nat × (Nat → Int32)} {h0 h : PH} {Q : Option Value → PH → Prop} {T : List Int32} {α : AK} {D : Nat} {s : Nat} (t : TK T s α.2.2) {pl : Nat} {Λ : LbS} (hB : Byt T) (lf : LF D T Λ α) {here : Nat} (eh : α.1 D 4 + α.1 D 2 = nI here) (e7 : α.1 3 7 = 0) (f : Fa D h0 h) (q : RA D h T α) (kE : ∀ e, opS T Λ here 70 s (α.1 3 12) = .inl e → FE D h0 T α Q e s) (kO : ∀ w, opS T Λ here 70 s (α.1 3 12) = .inr w → ∀ h', Fa D h0 h' → RA D h' T (aP α 3 12 w) → Q none h') : WP X mX0_takeOperand 3 69 0 (en 3 [.ref 3, .int 70, .int (nI pl)]) [] h Q := by
  refine w_iload_n dX0_takeOperand_0 rfl rfl ?_
  refine w_tbE (off := 177) (tgt := 178) (show (70 : Int32) = 70 from rfl) dX0_takeOperand_1 (by decide) (by decide) (by decide) (by decide) ?_
  refine w_aload_n dX0_takeOperand_178 rfl rfl ?_
  refine w_v0 (d2 := 2) (L2 := 45) dX0_takeOperand_179 vX0_188 rfl (q.1.lt (by decide)) (by decide) (Nat.le_of_ble_eq_true rfl) (by decide) (by decide) ?_
  refine T_tval t hB lf e7 f q (fun e e9 hz αz fz qz y1 y2 y3 y4 => ?_) (fun w e9 hz fz qz => ?_)
  · refine k_v rfl ?_
    refine w_goto (tgt := 224) dX0_takeOperand_182 (by decide) ?_
    refine w_vret dX0_takeOperand_224 ?_
    exact kE e e9 _ _ fz qz y1 y2 y3 y4
  · refine k_v rfl ?_
    refine w_goto (tgt := 224) dX0_takeOperand_182 (by decide) ?_
    refine w_vret dX0_takeOperand_224 ?_
    exact kO w e9 _ fz qz

/-- the letters of the shapes of all that makes one word -/
def shL : List Int32 := [65, 68, 70, 74, 79, 83, 86, 87]
theorem sh_ok : ∀ i, i < 37 → 4 ≤ i → (sB (opSh.getD i 0)).all (fun f => decide (f ∈ shL)) = true := by decide +kernel
theorem opSh_lt : ∀ i, i < 37 → opSh.getD i 0 < 60 ∧ (sB (opSh.getD i 0)).length ≤ 3 := by decide +kernel
theorem ow_e : ∀ i, i < 37 → ((opBase.getD i 0 = 65536) ↔ i < 4) := by decide +kernel
set_option maxRecDepth 20000 in
set_option maxHeartbeats 4000000 in
theorem T_op {X : Nat × (Nat → Int32)} {h0 h : PH} {Q : Option Value → PH → Prop} {T : List Int32} {α : AK} {D : Nat} {s : Nat} (t : TK T s α.2.2) {pl : Nat} {fm : Int32} (hf : fm ∈ shL) {Λ : LbS} (hB : Byt T) (lf : LF D T Λ α) {here : Nat} (eh : α.1 D 4 + α.1 D 2 = nI here) (e7 : α.1 3 7 = 0) (f : Fa D h0 h) (q : RA D h T α) (kE : ∀ e, opS T Λ here fm s (α.1 3 12) = .inl e → FE D h0 T α Q e s) (kO : ∀ w, opS T Λ here fm s (α.1 3 12) = .inr w → ∀ h', Fa D h0 h' → RA D h' T (aP α 3 12 w) → Q none h') : WP X mX0_takeOperand 3 69 0 (en 3 [.ref 3, .int fm, .int (nI pl)]) [] h Q := by
  unfold shL at hf
  simp only [List.mem_cons, List.not_mem_nil, or_false] at hf
  rcases hf with rfl | rfl | rfl | rfl | rfl | rfl | rfl | rfl
  · exact T_op65 t hB lf eh e7 f q kE kO
  · exact T_op68 t hB lf eh e7 f q kE kO
  · exact T_op70 t hB lf eh e7 f q kE kO
  · exact T_op74 t hB lf eh e7 f q kE kO
  · exact T_op79 t hB lf eh e7 f q kE kO
  · exact T_op83 t hB lf eh e7 f q kE kO
  · exact T_op86 t hB lf eh e7 f q kE kO
  · exact T_op87 t hB lf eh e7 f q kE kO

set_option maxRecDepth 20000 in
set_option maxHeartbeats 4000000 in
theorem T_op66 {X : Nat × (Nat → Int32)} {h0 h : PH} {Q : Option Value → PH → Prop} {T : List Int32} {α : AK} {D : Nat} {s : Nat} (t : TK T s α.2.2) {pl : Nat} {sec : Bool} {a : AS} (ar : AR D T sec a α) (f : Fa D h0 h) (q : RA D h T α) (k1 : ¬ uC T s = 2 → FE D h0 T α Q 1 s) (k2 : uC T s = 2 → (uV T s < 1 ∨ 4096 < uV T s) → FE D h0 T α Q 2 s) (k4 : uC T s = 2 → ¬ uV T s < 1 → ¬ 4096 < uV T s → roS a.2.2.2.1 a.2.2.2.2.1.length (uV T s).toNatClampNeg = false → FE D h0 T α Q 4 pl) (kO : uC T s = 2 → ¬ uV T s < 1 → ¬ 4096 < uV T s → roS a.2.2.2.1 a.2.2.2.2.1.length (uV T s).toNatClampNeg = true → GO D h0 T α Q sec (a.1, a.2.1, a.2.2.1, a.2.2.2.1, a.2.2.2.2.1 ++ List.replicate (uV T s).toNatClampNeg 0, a.2.2.2.2.2)) : WP X mX0_takeOperand 3 69 0 (en 3 [.ref 3, .int 66, .int (nI pl)]) [] h Q := by
  refine w_iload_n dX0_takeOperand_0 rfl rfl ?_
  refine w_tbE (off := 184) (tgt := 185) (show (66 : Int32) = 66 from rfl) dX0_takeOperand_1 (by decide) (by decide) (by decide) (by decide) ?_
  refine w_aload_n dX0_takeOperand_185 rfl rfl ?_
  refine w_iload_n dX0_takeOperand_186 rfl rfl ?_
  refine w_v1 (d2 := 2) (L2 := 45) dX0_takeOperand_187 vX0_191 rfl (q.1.lt (by decide)) rfl (by decide) (Nat.le_of_ble_eq_true rfl) (by decide) (by decide) ?_
  refine T_tblk t ar f q (fun a1 hz αz fz qz y1 y2 y3 y4 => ?_) (fun a1 a2 hz αz fz qz y1 y2 y3 y4 => ?_) (fun a1 a2 a3 a4 hz αz fz qz y1 y2 y3 y4 => ?_) (fun a1 a2 a3 a4 hz αz fz qz y1 y2 y3 => ?_)
  · refine k_v rfl ?_
    refine w_goto (tgt := 224) dX0_takeOperand_190 (by decide) ?_
    refine w_vret dX0_takeOperand_224 ?_
    exact k1 a1 _ _ fz qz y1 y2 y3 y4
  · refine k_v rfl ?_
    refine w_goto (tgt := 224) dX0_takeOperand_190 (by decide) ?_
    refine w_vret dX0_takeOperand_224 ?_
    exact k2 a1 a2 _ _ fz qz y1 y2 y3 y4
  · refine k_v rfl ?_
    refine w_goto (tgt := 224) dX0_takeOperand_190 (by decide) ?_
    refine w_vret dX0_takeOperand_224 ?_
    exact k4 a1 a2 a3 a4 _ _ fz qz y1 y2 y3 y4
  · refine k_v rfl ?_
    refine w_goto (tgt := 224) dX0_takeOperand_190 (by decide) ?_
    refine w_vret dX0_takeOperand_224 ?_
    exact kO a1 a2 a3 a4 _ _ fz qz y1 y2 y3

set_option maxRecDepth 20000 in
set_option maxHeartbeats 4000000 in
theorem T_op84 {X : Nat × (Nat → Int32)} {h0 h : PH} {Q : Option Value → PH → Prop} {T : List Int32} {α : AK} {D : Nat} {s : Nat} (t : TK T s α.2.2) {pl : Nat} {sec : Bool} {a : AS} (ar : AR D T sec a α) (f : Fa D h0 h) (q : RA D h T α) (k1 : ¬ uC T s = 5 → FE D h0 T α Q 1 s) (k4 : uC T s = 5 → roS a.2.2.2.1 a.2.2.2.2.1.length ((uX T s).length + 1) = false → FE D h0 T α Q 4 pl) (kO : uC T s = 5 → roS a.2.2.2.1 a.2.2.2.2.1.length ((uX T s).length + 1) = true → GO D h0 T α Q sec (a.1, a.2.1, a.2.2.1, a.2.2.2.1, a.2.2.2.2.1 ++ (uX T s).map (fun b => b &&& 65535) ++ [0], a.2.2.2.2.2)) : WP X mX0_takeOperand 3 69 0 (en 3 [.ref 3, .int 84, .int (nI pl)]) [] h Q := by
  refine w_iload_n dX0_takeOperand_0 rfl rfl ?_
  refine w_tbE (off := 192) (tgt := 193) (show (84 : Int32) = 84 from rfl) dX0_takeOperand_1 (by decide) (by decide) (by decide) (by decide) ?_
  refine w_aload_n dX0_takeOperand_193 rfl rfl ?_
  refine w_iload_n dX0_takeOperand_194 rfl rfl ?_
  refine w_v1 (d2 := 1) (L2 := 22) dX0_takeOperand_195 vX0_194 rfl (q.1.lt (by decide)) rfl (by decide) (Nat.le_of_ble_eq_true rfl) (by decide) (by decide) ?_
  refine T_ttxt t ar f q (fun a1 hz αz fz qz y1 y2 y3 y4 => ?_) (fun a1 a2 hz αz fz qz y1 y2 y3 y4 => ?_) (fun a1 a2 hz αz fz qz y1 y2 y3 => ?_)
  · refine k_v rfl ?_
    refine w_goto (tgt := 224) dX0_takeOperand_198 (by decide) ?_
    refine w_vret dX0_takeOperand_224 ?_
    exact k1 a1 _ _ fz qz y1 y2 y3 y4
  · refine k_v rfl ?_
    refine w_goto (tgt := 224) dX0_takeOperand_198 (by decide) ?_
    refine w_vret dX0_takeOperand_224 ?_
    exact k4 a1 a2 _ _ fz qz y1 y2 y3 y4
  · refine k_v rfl ?_
    refine w_goto (tgt := 224) dX0_takeOperand_198 (by decide) ?_
    refine w_vret dX0_takeOperand_224 ?_
    exact kO a1 a2 _ _ fz qz y1 y2 y3

set_option maxRecDepth 20000 in
set_option maxHeartbeats 4000000 in
theorem T_op71 {X : Nat × (Nat → Int32)} {h0 h : PH} {Q : Option Value → PH → Prop} {T : List Int32} {α : AK} {D : Nat} {s : Nat} (t : TK T s α.2.2) {pl : Nat} (e7 : α.1 3 7 = 0) (f : Fa D h0 h) (q : RA D h T α) (kE : ∀ e, nuS T s 0 65535 65535 (α.1 3 12) = .inl e → FE D h0 T α Q e s) (kO : ∀ w, nuS T s 0 65535 65535 (α.1 3 12) = .inr w → ∀ h', Fa D h0 h' → RA D h' T (aP (aP α 3 12 w) D 4 (uV T s)) → Q none h') : WP X mX0_takeOperand 3 69 0 (en 3 [.ref 3, .int 71, .int (nI pl)]) [] h Q := by
  refine w_iload_n dX0_takeOperand_0 rfl rfl ?_
  refine w_tbE (off := 200) (tgt := 201) (show (71 : Int32) = 71 from rfl) dX0_takeOperand_1 (by decide) (by decide) (by decide) (by decide) ?_
  refine w_aload_n dX0_takeOperand_201 rfl rfl ?_
  refine w_iconst dX0_takeOperand_202 (v := 0) (by decide) ?_
  refine w_ldc dX0_takeOperand_203 kX0_197 ?_
  refine w_ldc dX0_takeOperand_205 kX0_197 ?_
  refine w_v3 (d2 := 1) (L2 := 22) dX0_takeOperand_207 vX0_181 rfl (q.1.lt (by decide)) rfl rfl rfl (by decide) (Nat.le_of_ble_eq_true rfl) (by decide) (by decide) ?_
  have n3 : (3 : Nat) ≠ D := Ne.symm (D_n q.2.2.1).2.2.2.2.2.2.2.2.2.1
  refine T_tnum t e7 f q (fun e e9 hz αz fz qz y1 y2 y3 y4 => ?_) (fun w e9 hz fz qz => ?_)
  · refine k_v rfl ?_
    refine w_aload_n dX0_takeOperand_210 rfl rfl ?_
    refine a_gD qz dX0_takeOperand_211 fX0_21 ?_
    refine w_aload_n dX0_takeOperand_214 rfl rfl ?_
    refine w_gs (b := 12) qz.1 dX0_takeOperand_215 fX0_41 (by decide) rfl rfl (by decide) ?_
    refine a_gk (k := 4) (by decide) qz dX0_takeOperand_218 fX0_198 ?_
    refine a_pP (k := 4) rfl fz qz dX0_takeOperand_221 fX0_76 (fun h1 f1 q1 => ?_)
    refine w_vret dX0_takeOperand_224 ?_
    exact kE e e9 _ _ f1 q1 ((aP_c n3).trans y1) y2 ((aP_c n3).trans y3) ((aP_c n3).trans y4)
  · refine k_v rfl ?_
    refine w_aload_n dX0_takeOperand_210 rfl rfl ?_
    refine a_gD qz dX0_takeOperand_211 fX0_21 ?_
    refine w_aload_n dX0_takeOperand_214 rfl rfl ?_
    refine w_gs (b := 12) qz.1 dX0_takeOperand_215 fX0_41 (by decide) rfl rfl (by decide) ?_
    refine a_gk (k := 4) (by decide) qz dX0_takeOperand_218 fX0_198 ?_
    refine a_pP (k := 4) rfl fz qz dX0_takeOperand_221 fX0_76 (fun h2 f2 q2 => ?_)
    refine w_vret dX0_takeOperand_224 ?_
    have c2 : uC T s = 2 := by
      unfold nuS at e9
      split at e9
      · assumption
      · cases e9
    rw [show (aP α 3 12 w).2.2.1 4 = uV T s from t.2.2.2.1 (Or.inl c2)] at q2
    exact kO w e9 _ f2 q2

set_option maxRecDepth 20000 in
set_option maxHeartbeats 4000000 in
theorem T_tow {X : Nat × (Nat → Int32)} {h : PH} {Q : Option Value → PH → Prop} {i : Nat} (hi : i < 37) (k1 : 4 ≤ i → Q (some (.int 1)) h) (k0 : i < 4 → Q (some (.int 0)) h) : WP X mX5_takesOneWord 0 0 0 (en 1 [.ref (1000000 + i)]) [] h Q := by
  refine w_aload_n dX5_takesOneWord_0 rfl rfl ?_
  refine w_cget dX5_takesOneWord_1 (kF_b9 hi) gX5_143 ?_
  refine w_ldc dX5_takesOneWord_4 kX5_170 ?_
  refine w_icmp_eq (tgt := 13) dX5_takesOneWord_6 (by decide) (fun c_6 => ?_) (fun c_6 => ?_)
  · refine w_iconst dX5_takesOneWord_13 (v := 0) (by decide) ?_
    refine w_iret dX5_takesOneWord_14 (fun _ e => by cases e; decide) ?_
    exact k0 ((ow_e i hi).mp c_6)
  · refine w_iconst dX5_takesOneWord_9 (v := 1) (by decide) ?_
    refine w_goto (tgt := 14) dX5_takesOneWord_10 (by decide) ?_
    refine w_iret dX5_takesOneWord_14 (fun _ e => by cases e; decide) ?_
    exact k1 (Nat.le_of_not_lt (fun x => c_6 ((ow_e i hi).mpr x)))

