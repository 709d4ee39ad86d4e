/-! THE CLASS's WRITER: write() -/
set_option maxRecDepth 20000 in
set_option maxHeartbeats 4000000 in
theorem T_to65 {X : Nat × (Nat → Int32)} {h0 h : PH} {Q : Option Value → PH → Prop} {L : List Int32} {v : Int32} (f : Sm [23, 24] h0 h) (q : LC h L) (k : ∀ h', Sm [23, 24] h0 h' → LC h' (adB L (opT 65 v)) → Q none h') : WP X mX9_tellOperand 6 130 0 (en 3 [.ref 22, .int 65, .int v]) [] h Q := by
  refine w_iload_n dX9_tellOperand_0 rfl rfl ?_
  refine w_tbE (off := 121) (tgt := 122) (show (65 : Int32) = 65 from rfl) dX9_tellOperand_1 (by decide) (by decide) (by decide) (by decide) ?_
  refine w_aload_n dX9_tellOperand_122 rfl rfl ?_
  refine w_iload_n dX9_tellOperand_123 rfl rfl ?_
  refine w_bipush dX9_tellOperand_124 (v := 6) (by decide) ?_
  refine w_ishr dX9_tellOperand_126 ?_
  refine w_bipush dX9_tellOperand_127 (v := 7) (by decide) ?_
  refine w_iand dX9_tellOperand_129 ?_
  refine w_v1 (d2 := 1) (L2 := 21) dX9_tellOperand_130 vX9_70 rfl (q.1.lt (by decide)) rfl (by decide) (Nat.le_of_ble_eq_true rfl) (by decide) (by decide) ?_
  refine T_trg f q (fun hz fz qz => ?_)
  refine k_v rfl ?_
  refine w_goto (tgt := 220) dX9_tellOperand_133 (by decide) ?_
  refine w_vret dX9_tellOperand_220 ?_
  exact k _ fz qz

set_option maxRecDepth 20000 in
set_option maxHeartbeats 4000000 in
theorem T_to68 {X : Nat × (Nat → Int32)} {h0 h : PH} {Q : Option Value → PH → Prop} {L : List Int32} {v : Int32} (f : Sm [23, 24] h0 h) (q : LC h L) (k : ∀ h', Sm [23, 24] h0 h' → LC h' (adB L (opT 68 v)) → Q none h') : WP X mX9_tellOperand 6 130 0 (en 3 [.ref 22, .int 68, .int v]) [] h Q := by
  refine w_iload_n dX9_tellOperand_0 rfl rfl ?_
  refine w_tbE (off := 107) (tgt := 108) (show (68 : Int32) = 68 from rfl) dX9_tellOperand_1 (by decide) (by decide) (by decide) (by decide) ?_
  refine w_aload_n dX9_tellOperand_108 rfl rfl ?_
  refine w_iload_n dX9_tellOperand_109 rfl rfl ?_
  refine w_bipush dX9_tellOperand_110 (v := 9) (by decide) ?_
  refine w_ishr dX9_tellOperand_112 ?_
  refine w_bipush dX9_tellOperand_113 (v := 7) (by decide) ?_
  refine w_iand dX9_tellOperand_115 ?_
  refine w_v1 (d2 := 1) (L2 := 21) dX9_tellOperand_116 vX9_70 rfl (q.1.lt (by decide)) rfl (by decide) (Nat.le_of_ble_eq_true rfl) (by decide) (by decide) ?_
  refine T_trg f q (fun hz fz qz => ?_)
  refine k_v rfl ?_
  refine w_goto (tgt := 220) dX9_tellOperand_119 (by decide) ?_
  refine w_vret dX9_tellOperand_220 ?_
  exact k _ fz qz

set_option maxRecDepth 20000 in
set_option maxHeartbeats 4000000 in
theorem T_to70 {X : Nat × (Nat → Int32)} {h0 h : PH} {Q : Option Value → PH → Prop} {L : List Int32} {v : Int32} (f : Sm [23, 24] h0 h) (q : LC h L) (k : ∀ h', Sm [23, 24] h0 h' → LC h' (adB L (opT 70 v)) → Q none h') : WP X mX9_tellOperand 6 130 0 (en 3 [.ref 22, .int 70, .int v]) [] h Q := by
  refine w_iload_n dX9_tellOperand_0 rfl rfl ?_
  refine w_tbE (off := 213) (tgt := 214) (show (70 : Int32) = 70 from rfl) dX9_tellOperand_1 (by decide) (by decide) (by decide) (by decide) ?_
  refine w_aload_n dX9_tellOperand_214 rfl rfl ?_
  refine w_iload_n dX9_tellOperand_215 rfl rfl ?_
  refine w_iconst dX9_tellOperand_216 (v := 4) (by decide) ?_
  refine w_v2 (d2 := 4) (L2 := 85) dX9_tellOperand_217 vX9_80 rfl (q.1.lt (by decide)) rfl rfl (by decide) (Nat.le_of_ble_eq_true rfl) (by decide) (by decide) ?_
  refine T_thx4 f q (fun hz fz qz => ?_)
  refine k_v rfl ?_
  refine w_vret dX9_tellOperand_220 ?_
  exact k _ fz qz

set_option maxRecDepth 20000 in
set_option maxHeartbeats 4000000 in
theorem T_to74 {X : Nat × (Nat → Int32)} {h0 h : PH} {Q : Option Value → PH → Prop} {L : List Int32} {v : Int32} (f : Sm [23, 24] h0 h) (q : LC h L) (k : ∀ h', Sm [23, 24] h0 h' → LC h' (adB L (opT 74 v)) → Q none h') : WP X mX9_tellOperand 6 130 0 (en 3 [.ref 22, .int 74, .int v]) [] h Q := by
  refine w_iload_n dX9_tellOperand_0 rfl rfl ?_
  refine w_tbE (off := 191) (tgt := 192) (show (74 : Int32) = 74 from rfl) dX9_tellOperand_1 (by decide) (by decide) (by decide) (by decide) ?_
  refine w_aload_n dX9_tellOperand_192 rfl rfl ?_
  refine w_iload_n dX9_tellOperand_193 rfl rfl ?_
  refine w_bipush dX9_tellOperand_194 (v := 11) (by decide) ?_
  refine w_s2 (d2 := 0) (L2 := 0) dX9_tellOperand_196 vX9_73 rfl rfl (by decide) (Nat.le_of_ble_eq_true rfl) (by decide) (by decide) ?_
  refine T_sg ?_
  refine k_i rfl ?_
  refine w_v1 (d2 := 5) (L2 := 107) dX9_tellOperand_199 vX9_77 rfl (q.1.lt (by decide)) rfl (by decide) (Nat.le_of_ble_eq_true rfl) (by decide) (by decide) ?_
  refine T_tnW f q (fun hz fz qz => ?_)
  refine k_v rfl ?_
  refine w_goto (tgt := 220) dX9_tellOperand_202 (by decide) ?_
  refine w_vret dX9_tellOperand_220 ?_
  exact k _ fz qz

set_option maxRecDepth 20000 in
set_option maxHeartbeats 4000000 in
theorem T_to79 {X : Nat × (Nat → Int32)} {h0 h : PH} {Q : Option Value → PH → Prop} {L : List Int32} {v : Int32} (f : Sm [23, 24] h0 h) (q : LC h L) (k : ∀ h', Sm [23, 24] h0 h' → LC h' (adB L (opT 79 v)) → Q none h') : WP X mX9_tellOperand 6 130 0 (en 3 [.ref 22, .int 79, .int v]) [] h Q := by
  refine w_iload_n dX9_tellOperand_0 rfl rfl ?_
  refine w_tbE (off := 165) (tgt := 166) (show (79 : Int32) = 79 from rfl) dX9_tellOperand_1 (by decide) (by decide) (by decide) (by decide) ?_
  refine w_aload_n dX9_tellOperand_166 rfl rfl ?_
  refine w_iload_n dX9_tellOperand_167 rfl rfl ?_
  refine w_bipush dX9_tellOperand_168 (v := 6) (by decide) ?_
  refine w_s2 (d2 := 0) (L2 := 0) dX9_tellOperand_170 vX9_73 rfl rfl (by decide) (Nat.le_of_ble_eq_true rfl) (by decide) (by decide) ?_
  refine T_sg ?_
  refine k_i rfl ?_
  refine w_v1 (d2 := 5) (L2 := 107) dX9_tellOperand_173 vX9_77 rfl (q.1.lt (by decide)) rfl (by decide) (Nat.le_of_ble_eq_true rfl) (by decide) (by decide) ?_
  refine T_tnW f q (fun hz fz qz => ?_)
  refine k_v rfl ?_
  refine w_goto (tgt := 220) dX9_tellOperand_176 (by decide) ?_
  refine w_vret dX9_tellOperand_220 ?_
  exact k _ fz qz

set_option maxRecDepth 20000 in
set_option maxHeartbeats 4000000 in
theorem T_to83 {X : Nat × (Nat → Int32)} {h0 h : PH} {Q : Option Value → PH → Prop} {L : List Int32} {v : Int32} (f : Sm [23, 24] h0 h) (q : LC h L) (k : ∀ h', Sm [23, 24] h0 h' → LC h' (adB L (opT 83 v)) → Q none h') : WP X mX9_tellOperand 6 130 0 (en 3 [.ref 22, .int 83, .int v]) [] h Q := by
  refine w_iload_n dX9_tellOperand_0 rfl rfl ?_
  refine w_tbE (off := 135) (tgt := 136) (show (83 : Int32) = 83 from rfl) dX9_tellOperand_1 (by decide) (by decide) (by decide) (by decide) ?_
  refine w_iload_n dX9_tellOperand_136 rfl rfl ?_
  refine w_bipush dX9_tellOperand_137 (v := 32) (by decide) ?_
  refine w_iand dX9_tellOperand_139 ?_
  refine w_if_eq (tgt := 155) dX9_tellOperand_140 (by decide) (fun c_140 => ?_) (fun c_140 => ?_)
  · refine w_aload_n dX9_tellOperand_155 rfl rfl ?_
    refine w_iload_n dX9_tellOperand_156 rfl rfl ?_
    refine w_bipush dX9_tellOperand_157 (v := 7) (by decide) ?_
    refine w_iand dX9_tellOperand_159 ?_
    refine w_v1 (d2 := 1) (L2 := 21) dX9_tellOperand_160 vX9_70 rfl (q.1.lt (by decide)) rfl (by decide) (Nat.le_of_ble_eq_true rfl) (by decide) (by decide) ?_
    refine T_trg f q (fun hz fz qz => ?_)
    refine k_v rfl ?_
    refine w_goto (tgt := 220) dX9_tellOperand_163 (by decide) ?_
    refine w_vret dX9_tellOperand_220 ?_
    exact k _ fz (by rw [show opT 83 v = rgT (v &&& 7) from if_pos c_140]; exact qz)
  · refine w_aload_n dX9_tellOperand_143 rfl rfl ?_
    refine w_iload_n dX9_tellOperand_144 rfl rfl ?_
    refine w_iconst dX9_tellOperand_145 (v := 5) (by decide) ?_
    refine w_s2 (d2 := 0) (L2 := 0) dX9_tellOperand_146 vX9_73 rfl rfl (by decide) (Nat.le_of_ble_eq_true rfl) (by decide) (by decide) ?_
    refine T_sg ?_
    refine k_i rfl ?_
    refine w_v1 (d2 := 5) (L2 := 107) dX9_tellOperand_149 vX9_77 rfl (q.1.lt (by decide)) rfl (by decide) (Nat.le_of_ble_eq_true rfl) (by decide) (by decide) ?_
    refine T_tnW f q (fun hz fz qz => ?_)
    refine k_v rfl ?_
    refine w_goto (tgt := 220) dX9_tellOperand_152 (by decide) ?_
    refine w_vret dX9_tellOperand_220 ?_
    exact k _ fz (by rw [show opT 83 v = nvC (sgS v 5) from if_neg c_140]; exact qz)

set_option maxRecDepth 20000 in
set_option maxHeartbeats 4000000 in
theorem T_to86 {X : Nat × (Nat → Int32)} {h0 h : PH} {Q : Option Value → PH → Prop} {L : List Int32} {v : Int32} (f : Sm [23, 24] h0 h) (q : LC h L) (k : ∀ h', Sm [23, 24] h0 h' → LC h' (adB L (opT 86 v)) → Q none h') : WP X mX9_tellOperand 6 130 0 (en 3 [.ref 22, .int 86, .int v]) [] h Q := by
  refine w_iload_n dX9_tellOperand_0 rfl rfl ?_
  refine w_tbE (off := 204) (tgt := 205) (show (86 : Int32) = 86 from rfl) dX9_tellOperand_1 (by decide) (by decide) (by decide) (by decide) ?_
  refine w_aload_n dX9_tellOperand_205 rfl rfl ?_
  refine w_iload_n dX9_tellOperand_206 rfl rfl ?_
  refine w_iconst dX9_tellOperand_207 (v := 2) (by decide) ?_
  refine w_v2 (d2 := 4) (L2 := 85) dX9_tellOperand_208 vX9_80 rfl (q.1.lt (by decide)) rfl rfl (by decide) (Nat.le_of_ble_eq_true rfl) (by decide) (by decide) ?_
  refine T_thx2 f q (fun hz fz qz => ?_)
  refine k_v rfl ?_
  refine w_goto (tgt := 220) dX9_tellOperand_211 (by decide) ?_
  refine w_vret dX9_tellOperand_220 ?_
  exact k _ fz qz

set_option maxRecDepth 20000 in
set_option maxHeartbeats 4000000 in
theorem T_to87 {X : Nat × (Nat → Int32)} {h0 h : PH} {Q : Option Value → PH → Prop} {L : List Int32} {v : Int32} (f : Sm [23, 24] h0 h) (q : LC h L) (k : ∀ h', Sm [23, 24] h0 h' → LC h' (adB L (opT 87 v)) → Q none h') : WP X mX9_tellOperand 6 130 0 (en 3 [.ref 22, .int 87, .int v]) [] h Q := by
  refine w_iload_n dX9_tellOperand_0 rfl rfl ?_
  refine w_tbE (off := 178) (tgt := 179) (show (87 : Int32) = 87 from rfl) dX9_tellOperand_1 (by decide) (by decide) (by decide) (by decide) ?_
  refine w_aload_n dX9_tellOperand_179 rfl rfl ?_
  refine w_iload_n dX9_tellOperand_180 rfl rfl ?_
  refine w_bipush dX9_tellOperand_181 (v := 9) (by decide) ?_
  refine w_s2 (d2 := 0) (L2 := 0) dX9_tellOperand_183 vX9_73 rfl rfl (by decide) (Nat.le_of_ble_eq_true rfl) (by decide) (by decide) ?_
  refine T_sg ?_
  refine k_i rfl ?_
  refine w_v1 (d2 := 5) (L2 := 107) dX9_tellOperand_186 vX9_77 rfl (q.1.lt (by decide)) rfl (by decide) (Nat.le_of_ble_eq_true rfl) (by decide) (by decide) ?_
  refine T_tnW f q (fun hz fz qz => ?_)
  refine k_v rfl ?_
  refine w_goto (tgt := 220) dX9_tellOperand_189 (by decide) ?_
  refine w_vret dX9_tellOperand_220 ?_
  exact k _ fz qz

set_option maxRecDepth 20000 in
set_option maxHeartbeats 4000000 in
theorem T_to {X : Nat × (Nat → Int32)} {h0 h : PH} {Q : Option Value → PH → Prop} {L : List Int32} {v fm : Int32} (hf : fm ∈ shL) (f : Sm [23, 24] h0 h) (q : LC h L) (k : ∀ h', Sm [23, 24] h0 h' → LC h' (adB L (opT fm v)) → Q none h') : WP X mX9_tellOperand 6 130 0 (en 3 [.ref 22, .int fm, .int v]) [] h Q := by
  unfold shL at hf
  simp only [List.mem_cons, List.not_mem_nil, or_false] at hf
  rcases hf with rfl | rfl | rfl | rfl | rfl | rfl | rfl | rfl
  · exact T_to65 f q k
  · exact T_to68 f q k
  · exact T_to70 f q k
  · exact T_to74 f q k
  · exact T_to79 f q k
  · exact T_to83 f q k
  · exact T_to86 f q k
  · exact T_to87 f q k

theorem op_c : ∀ i, i < 37 → opMask.getD i 0 = nI (mkB.getD i (0, 0)).1 ∧ opBase.getD i 0 = nI (mkB.getD i (0, 0)).2 ∧ (mkB.getD i (0, 0)).1 < 65536 ∧ (mkB.getD i (0, 0)).2 < 65537 := by decide +kernel
theorem op_g {n i : Nat} (hn : n < 65536) (hi : i < 37) : (nI n &&& opMask.getD i 0 = opBase.getD i 0) ↔ Nat.beq (Nat.land n (mkB.getD i (0, 0)).1) (mkB.getD i (0, 0)).2 = true := by
  have c := op_c i hi
  have hl : n &&& (mkB.getD i (0, 0)).1 ≤ n := Nat.and_le_left
  rw [c.1, c.2.1, nI_land, nI_eq (by omega) (by omega)]
  rw [Nat.beq_eq]; exact Iff.rfl
set_option maxRecDepth 20000 in
set_option maxHeartbeats 4000000 in
theorem T_giv {X : Nat × (Nat → Int32)} {h : PH} {Q : Option Value → PH → Prop} {i n : Nat} (hi : i < 37) (k1 : nI n &&& opMask.getD i 0 = opBase.getD i 0 → Q (some (.int 1)) h) (k0 : ¬ nI n &&& opMask.getD i 0 = opBase.getD i 0 → Q (some (.int 0)) h) : WP X mX5_gives 0 0 0 (en 2 [.ref (1000000 + i), .int (nI n)]) [] h Q := by
  refine w_iload_n dX5_gives_0 rfl rfl ?_
  refine w_aload_n dX5_gives_1 rfl rfl ?_
  refine w_cget dX5_gives_2 (kF_m9 hi) gX5_147 ?_
  refine w_iand dX5_gives_5 ?_
  refine w_aload_n dX5_gives_6 rfl rfl ?_
  refine w_cget dX5_gives_7 (kF_b9 hi) gX5_143 ?_
  refine w_icmp_ne (tgt := 17) dX5_gives_10 (by decide) (fun c_10 => ?_) (fun c_10 => ?_)
  · refine w_iconst dX5_gives_17 (v := 0) (by decide) ?_
    refine w_iret dX5_gives_18 (fun _ e => by cases e; decide) ?_
    exact k0 c_10
  · refine w_iconst dX5_gives_13 (v := 1) (by decide) ?_
    refine w_goto (tgt := 18) dX5_gives_14 (by decide) ?_
    refine w_iret dX5_gives_18 (fun _ e => by cases e; decide) ?_
    exact k1 c_10

set_option maxRecDepth 20000 in
set_option maxHeartbeats 4000000 in
theorem L_oo {X : Nat × (Nat → Int32)} {h : PH} {Q : Option Value → PH → Prop} {n : Nat} (hn : n < 65536) : ∀ (l : List (Nat × Nat)) (i : Nat), mkB.drop i = l → i ≤ 37 → (∀ j, j < 37 → fN n l i = j → Q (some (.ref (1000000 + j))) h) → WP X mX9_opOf 1 21 2 [some (.int (nI n)), some (.int (nI i))] [] h Q := by
  intro l
  induction l with
  | nil =>
    intro i hl hi k
    have hi2 : i = 37 := by
      have := congrArg List.length hl
      rw [List.length_drop, List.length_nil, show mkB.length = 37 from rfl] at this; omega
    subst hi2
    refine w_iload_n dX9_opOf_2 rfl rfl ?_
    refine w_cstat dX9_opOf_3 kZ_a9 gX9_58 ?_
    refine w_clen dX9_opOf_6 kT_a9 (v := 37) rfl ?_
    refine w_icmp_ge (tgt := 34) dX9_opOf_7 (by decide) (fun c_7 => ?_) (fun c_7 => absurd c_7 (not_not_intro (by decide)))
    refine w_cstat dX9_opOf_34 kZ_f9 gX9_66 ?_
    refine w_aret dX9_opOf_37 ?_
    exact k 36 (by decide) rfl
  | cons p l ih =>
    intro i hl hi0 k
    have hi : i < 37 := by
      have := congrArg List.length hl
      rw [List.length_drop, List.length_cons, show mkB.length = 37 from rfl] at this; omega
    have hv : mkB[i]? = some p := by
      have := congrArg (fun l => l[0]?) hl
      simpa [List.getElem?_drop] using this
    have hg : mkB.getD i (0, 0) = p := by rw [List.getD_eq_getElem?_getD, hv]; rfl
    have hd9 : mkB.drop (i + 1) = l := by
      have e : mkB.drop (i + 1) = (mkB.drop i).drop 1 := by rw [List.drop_drop]
      rw [e, hl]; rfl
    have og := op_g hn hi
    rw [hg] at og
    refine w_iload_n dX9_opOf_2 rfl rfl ?_
    refine w_cstat dX9_opOf_3 kZ_a9 gX9_58 ?_
    refine w_clen dX9_opOf_6 kT_a9 (v := 37) rfl ?_
    refine w_icmp_ge (tgt := 34) dX9_opOf_7 (by decide) (fun c_7 => absurd c_7 (nI_ge (b := 37) (by omega) (by decide))) (fun c_7 => ?_)
    refine w_cstat dX9_opOf_10 kZ_a9 gX9_58 ?_
    refine w_iload_n dX9_opOf_13 rfl rfl ?_
    refine w_caal (v := .ref (1000000 + i)) dX9_opOf_14 kT_a9 (all_in hi) (all_at hi) ?_
    refine w_iload_n dX9_opOf_15 rfl rfl ?_
    refine w_callC (d2 := 0) (L2 := 0) (M2 := mX5_gives) (As := [.int (nI n)]) dX9_opOf_16 oX5_gives lX9_62 iX5_gives sX5_gives (kO_o9 hi) rfl rfl (fun v hv => by simp only [List.mem_cons, List.not_mem_nil, or_false] at hv; rw [hv]; rfl) (Nat.le_of_ble_eq_true rfl) (Nat.le_of_ble_eq_true rfl) (by decide) (by decide) ?_
    refine T_giv hi (fun g => ?_) (fun g => ?_)
    · refine k_i rfl ?_
      refine w_if_eq (tgt := 28) dX9_opOf_19 (by decide) (fun c_19 => absurd c_19 (by decide)) (fun c_19 => ?_)
      refine w_cstat dX9_opOf_22 kZ_a9 gX9_58 ?_
      refine w_iload_n dX9_opOf_25 rfl rfl ?_
      refine w_caal (v := .ref (1000000 + i)) dX9_opOf_26 kT_a9 (all_in hi) (all_at hi) ?_
      refine w_aret dX9_opOf_27 ?_
      exact k i hi (by rw [fN, og.mp g]; rfl)
    · refine k_i rfl ?_
      refine w_if_eq (tgt := 28) dX9_opOf_19 (by decide) (fun c_19 => ?_) (fun c_19 => absurd c_19 (by decide))
      refine w_iinc (v := (nI (i + 1))) dX9_opOf_28 rfl (nI_1 i) (by decide) ?_
      refine w_goto (tgt := 2) dX9_opOf_31 (by decide) ?_
      exact ih (i + 1) hd9 (by omega) (fun j hj e => k j hj (by rw [fN, show Nat.beq (Nat.land n p.1) p.2 = false from Bool.eq_false_iff.mpr (fun e9 => g (og.mpr e9))]; exact e))

set_option maxRecDepth 20000 in
set_option maxHeartbeats 4000000 in
theorem T_opOf {X : Nat × (Nat → Int32)} {h : PH} {Q : Option Value → PH → Prop} {n : Nat} (hn : n < 65536) (k : ∀ j, j < 37 → fN n mkB 0 = j → Q (some (.ref (1000000 + j))) h) : WP X mX9_opOf 1 21 0 (en 2 [.int (nI n)]) [] h Q := by
  refine w_iconst dX9_opOf_0 (v := 0) (by decide) ?_
  refine w_istore_n dX9_opOf_1 rfl (by decide) ?_
  exact L_oo hn mkB 0 rfl (by decide) k

