/-! THE LAW's CASES -/
abbrev lwl (i : Int32) (a5 a6 : Option Value) : List (Option Value) := [some (.ref 1004000), some (.ref 0), some (.ref 25), some (.ref 39), some (.int i), a5, a6]
/-- what holds between two calls -/
def JJ (e : Nat) (h : PH) (σ τ : MS) (T L : List Int32) (κ : KE) : Prop := HH e h σ τ T T L L κ κ ∧ (∃ x y, Rw 0 x y σ τ) ∧ Byt T ∧ Byt L ∧ ∀ v ∈ κ.2.2.2.1, W16 v
def KK (X : Nat × (Nat → Int32)) (Q : Option Value → PH → Prop) (e : Nat) (i : Int32) : Prop := ∀ (e' : Nat) (h' : PH) (σ τ : MS) (T L : List Int32) (κ : KE) (a5 a6 : Option Value), e' ≤ e + 1 → JJ e' h' σ τ T L κ → WP X mL_law 16 614 832 (lwl i a5 a6) [] h' Q
def SC (X : Nat × (Nat → Int32)) (i : Int32) : Prop := vp_in (i + 1) X.1 ∧ vp_in (i + 2) X.1 ∧ vp_in (i + 3) X.1 ∧ vp_in (i + 4) X.1 ∧ vp_in (i + 5) X.1
section AC
variable {e : Nat} {h : PH} {σ τ : MS} {T T' L L' : List Int32} {κ κ' : KE}
theorem HH.S (q : HH e h σ τ T T' L L' κ κ') : St h := q.2.1.1
theorem HH.rc (q : HH e h σ τ T T' L L' κ κ') : RC h σ := q.2.1
theorem HH.rm (q : HH e h σ τ T T' L L' κ κ') : RM h τ := q.2.2.1
theorem HH.tc (q : HH e h σ τ T T' L L' κ κ') : TC h T := q.2.2.2.1
theorem HH.rt (q : HH e h σ τ T T' L L' κ κ') : RTp T'.length h T' := q.2.2.2.2.1
theorem HH.lc (q : HH e h σ τ T T' L L' κ κ') : LC h L := q.2.2.2.2.2.1
theorem HH.lr (q : HH e h σ τ T T' L L' κ κ') : LR h L' := q.2.2.2.2.2.2.1
theorem HH.ck (q : HH e h σ τ T T' L L' κ κ') : CK h κ := q.2.2.2.2.2.2.2.1
theorem HH.mk (q : HH e h σ τ T T' L L' κ κ') : MK h κ' := q.2.2.2.2.2.2.2.2
end AC
theorem feS_len (T : List Int32) (a b c d e : Int32) : T.length + 20 = (feS T a b c d e).length := by
  unfold feS
  simp only [List.length_append, by4_len]
theorem Byt.app {T L : List Int32} (h : Byt T) (k : Byt L) : Byt (T ++ L) := fun v hv => (List.mem_append.mp hv).elim (h v) (k v)
theorem byt_4 (v : Int32) : Byt (by4 v) := by
  intro x hx
  unfold by4 at hx
  simp only [List.mem_cons, List.not_mem_nil, or_false] at hx
  rcases hx with rfl | rfl | rfl | rfl <;> exact b_and _
theorem byt_fe {T : List Int32} (h : Byt T) (a b c d e : Int32) : Byt (feS T a b c d e) := ((((h.app (byt_4 a)).app (byt_4 b)).app (byt_4 c)).app (byt_4 d)).app (byt_4 e)
theorem Byt.take {T : List Int32} (h : Byt T) (m : Nat) : Byt (T.take m) := fun v hv => h v (List.mem_of_mem_take hv)
theorem Byt.nil : Byt [] := fun v hv => by cases hv
theorem end_no {m n : Nat} (h : m ≤ n) (hn9 : n ≤ 4000) : ¬ (nI m < 0 ∨ nI n < nI m) := by
  rintro (z | z)
  · exact nI_pos (by omega) z
  · exact nI_nlt h (by omega) z
theorem lc0_eq {x y : Int64} (h : x = y) : lg_cmp x y = 0 := by
  subst h; unfold lg_cmp
  rw [if_neg (by exact Int64.lt_irrefl), if_pos rfl]
theorem Rw.typ {d x y : Int32} {σ τ : MS} (q : Rw d x y σ τ) (b : Int32) : Rw d x y (typS σ b) (mky τ b) := by
  have ek : σ.2.2.1 = τ.2.2.1 := q.1.2.2.2.1
  have hk : ∀ z ∈ τ.2.2.1 ++ [b &&& 255], B8 z := fun z hz => (List.mem_append.mp hz).elim (q.2.2.2 z) (fun hz => by rw [List.mem_singleton.mp hz]; exact b_and _)
  unfold typS mky
  rw [ek, q.g 12]
  split
  · split
    · exact (q.K hk).G (by decide) (fun _ => w_0)
    · exact q.K hk
  · exact q
theorem nI_up {x : Int32} {n : Nat} (hn9 : n < 2 ^ 31) (h : ¬ (x < 0 ∨ ¬ x ≤ nI n)) : ∃ m, m ≤ n ∧ x = nI m := by
  obtain ⟨j, hj, e⟩ := nI_of (fun z => h (Or.inl z))
  subst e
  exact ⟨j, (nI_leI hj hn9).mp (Classical.not_not.mp (fun z => h (Or.inr z))), rfl⟩
theorem le_lt12 {x : Int32} : (x < 0 ∨ ¬ x ≤ 11) → (x < 0 ∨ ¬ x < 12) := by
  rintro (z | z)
  · exact Or.inl z
  · refine Or.inr (fun c => z ?_)
    rw [Int32.lt_iff_toInt_lt] at c
    rw [Int32.le_iff_toInt_le]
    have e1 : (12 : Int32).toInt = 12 := by decide
    have e2 : (11 : Int32).toInt = 11 := by decide
    rw [e1] at c; rw [e2]; omega
set_option maxHeartbeats 4000000 in
theorem C_state {X : Nat × (Nat → Int32)} {Q : Option Value → PH → Prop} {e : Nat} {i : Int32} {a5 a6 : Option Value} {h : PH} {σ τ : MS} {T L : List Int32} {κ : KE} (hs : SC X i) (j : JJ e h σ τ T L κ) (kk : KK X Q e i) : WP X mL_law 16 614 509 (lwl i a5 a6) [] h Q := by
  obtain ⟨q, ⟨x, y, w⟩, bT, bL, wk⟩ := j
  have S := q.S
  refine w_aload_n dL_law_509 rfl rfl ?_
  refine w_v0 (d2 := 0) (L2 := 0) dL_law_510 vL_78 rfl (S.lt (by decide)) (by decide) (Nat.le_of_ble_eq_true rfl) (by decide) (by decide) ?_
  refine T_cstate q.rc ?_
  refine k_i rfl ?_
  refine w_aload_n dL_law_513 rfl rfl ?_
  refine w_v0 (d2 := 0) (L2 := 0) dL_law_514 vL_81 rfl (S.lt (by decide)) (by decide) (Nat.le_of_ble_eq_true rfl) (by decide) (by decide) ?_
  refine T_mstate q.rm (fun h1 f1 r1 => ?_)
  refine k_i rfl ?_
  refine w_icmp_eq (tgt := 832) dL_law_517 (by decide) (fun _ => ?_) (fun c9 => absurd (w.g 12) c9)
  exact kk e h1 σ τ T L κ _ _ (Nat.le_succ _) ⟨q.mm f1 r1, ⟨x, y, w⟩, bT, bL, wk⟩
set_option maxHeartbeats 4000000 in
theorem C_printed {X : Nat × (Nat → Int32)} {Q : Option Value → PH → Prop} {e : Nat} {i : Int32} {a5 a6 : Option Value} {h : PH} {σ τ : MS} {T L : List Int32} {κ : KE} (hs : SC X i) (j : JJ e h σ τ T L κ) (kk : KK X Q e i) : WP X mL_law 16 614 738 (lwl i a5 a6) [] h Q := by
  obtain ⟨q, ⟨x, y, w⟩, bT, bL, wk⟩ := j
  have S := q.S
  refine w_aload_n dL_law_738 rfl rfl ?_
  refine w_v0 (d2 := 0) (L2 := 0) dL_law_739 vL_111 rfl (S.lt (by decide)) (by decide) (Nat.le_of_ble_eq_true rfl) (by decide) (by decide) ?_
  refine T_cprinted q.rc ?_
  refine k_i rfl ?_
  refine w_aload_n dL_law_742 rfl rfl ?_
  refine w_v0 (d2 := 0) (L2 := 0) dL_law_743 vL_114 rfl (S.lt (by decide)) (by decide) (Nat.le_of_ble_eq_true rfl) (by decide) (by decide) ?_
  refine T_mprinted q.rm (fun h1 f1 r1 => ?_)
  refine k_i rfl ?_
  refine w_icmp_eq (tgt := 832) dL_law_746 (by decide) (fun _ => ?_) (fun c9 => absurd (w.g 15) c9)
  exact kk e h1 σ τ T L κ _ _ (Nat.le_succ _) ⟨q.mm f1 r1, ⟨x, y, w⟩, bT, bL, wk⟩
set_option maxHeartbeats 4000000 in
theorem C_peek {X : Nat × (Nat → Int32)} {Q : Option Value → PH → Prop} {e : Nat} {i : Int32} {a5 a6 : Option Value} {h : PH} {σ τ : MS} {T L : List Int32} {κ : KE} (hs : SC X i) (j : JJ e h σ τ T L κ) (kk : KK X Q e i) : WP X mL_law 16 614 615 (lwl i a5 a6) [] h Q := by
  obtain ⟨q, ⟨x, y, w⟩, bT, bL, wk⟩ := j
  have S := q.S
  refine w_aload_n dL_law_615 rfl rfl ?_
  refine w_aload_n dL_law_616 rfl rfl ?_
  refine w_iload dL_law_617 rfl ?_
  refine w_iconst dL_law_619 (v := 1) (by decide) ?_
  refine w_iadd dL_law_620 ?_
  refine w_sld dL_law_621 hs.1 ?_
  refine w_v1 (d2 := 2) (L2 := 43) dL_law_622 vL_90 rfl (S.lt (by decide)) rfl (by decide) (Nat.le_of_ble_eq_true rfl) (by decide) (by decide) ?_
  refine T_cpeek q.rc ?_
  refine k_i rfl ?_
  refine w_aload_n dL_law_625 rfl rfl ?_
  refine w_aload_n dL_law_626 rfl rfl ?_
  refine w_iload dL_law_627 rfl ?_
  refine w_iconst dL_law_629 (v := 1) (by decide) ?_
  refine w_iadd dL_law_630 ?_
  refine w_sld dL_law_631 hs.1 ?_
  refine w_v1 (d2 := 1) (L2 := 21) dL_law_632 vL_93 rfl (S.lt (by decide)) rfl (by decide) (Nat.le_of_ble_eq_true rfl) (by decide) (by decide) ?_
  refine T_mpeek q.rm (fun h1 f1 r1 => ?_)
  refine k_i rfl ?_
  refine w_icmp_eq (tgt := 832) dL_law_635 (by decide) (fun _ => ?_) (fun c9 => absurd (w.look (w_and _)).1 c9)
  exact kk e h1 σ τ T L κ _ _ (Nat.le_succ _) ⟨q.mm f1 r1, ⟨x, y, w⟩, bT, bL, wk⟩
set_option maxHeartbeats 4000000 in
theorem C_print {X : Nat × (Nat → Int32)} {Q : Option Value → PH → Prop} {e : Nat} {i : Int32} {a5 a6 : Option Value} {h : PH} {σ τ : MS} {T L : List Int32} {κ : KE} (hs : SC X i) (j : JJ e h σ τ T L κ) (kk : KK X Q e i) : WP X mL_law 16 614 751 (lwl i a5 a6) [] h Q := by
  obtain ⟨q, ⟨x, y, w⟩, bT, bL, wk⟩ := j
  have S := q.S
  refine w_aload_n dL_law_751 rfl rfl ?_
  refine w_aload_n dL_law_752 rfl rfl ?_
  refine w_iload dL_law_753 rfl ?_
  refine w_iconst dL_law_755 (v := 1) (by decide) ?_
  refine w_iadd dL_law_756 ?_
  refine w_sld dL_law_757 hs.1 ?_
  refine w_v1 (d2 := 1) (L2 := 21) dL_law_758 vL_115 rfl (S.lt (by decide)) rfl (by decide) (Nat.le_of_ble_eq_true rfl) (by decide) (by decide) ?_
  refine T_cprint q.rc ?_
  refine k_i rfl ?_
  refine w_aload_n dL_law_761 rfl rfl ?_
  refine w_aload_n dL_law_762 rfl rfl ?_
  refine w_iload dL_law_763 rfl ?_
  refine w_iconst dL_law_765 (v := 1) (by decide) ?_
  refine w_iadd dL_law_766 ?_
  refine w_sld dL_law_767 hs.1 ?_
  refine w_v1 (d2 := 0) (L2 := 0) dL_law_768 vL_118 rfl (S.lt (by decide)) rfl (by decide) (Nat.le_of_ble_eq_true rfl) (by decide) (by decide) ?_
  refine T_mprint q.rm (fun h1 f1 r1 => ?_)
  refine k_i rfl ?_
  refine w_icmp_eq (tgt := 832) dL_law_771 (by decide) (fun _ => ?_) (fun c9 => absurd (by rw [w.1.2.2.2.2.1]) c9)
  exact kk e h1 σ τ T L κ _ _ (Nat.le_succ _) ⟨q.mm f1 r1, ⟨x, y, w⟩, bT, bL, wk⟩
set_option maxHeartbeats 4000000 in
theorem C_feed {X : Nat × (Nat → Int32)} {Q : Option Value → PH → Prop} {e : Nat} {i : Int32} {a5 a6 : Option Value} {h : PH} {σ τ : MS} {T L : List Int32} {κ : KE} (hs : SC X i) (j : JJ e h σ τ T L κ) (kk : KK X Q e i) : WP X mL_law 16 614 136 (lwl i a5 a6) [] h Q := by
  obtain ⟨q, ⟨x, y, w⟩, bT, bL, wk⟩ := j
  have S := q.S
  refine w_aload_n dL_law_136 rfl rfl ?_
  refine w_aload_n dL_law_137 rfl rfl ?_
  refine w_iload dL_law_138 rfl ?_
  refine w_iconst dL_law_140 (v := 1) (by decide) ?_
  refine w_iadd dL_law_141 ?_
  refine w_sld dL_law_142 hs.1 ?_
  refine w_aload_n dL_law_143 rfl rfl ?_
  refine w_iload dL_law_144 rfl ?_
  refine w_iconst dL_law_146 (v := 2) (by decide) ?_
  refine w_iadd dL_law_147 ?_
  refine w_sld dL_law_148 hs.2.1 ?_
  refine w_aload_n dL_law_149 rfl rfl ?_
  refine w_iload dL_law_150 rfl ?_
  refine w_iconst dL_law_152 (v := 3) (by decide) ?_
  refine w_iadd dL_law_153 ?_
  refine w_sld dL_law_154 hs.2.2.1 ?_
  refine w_aload_n dL_law_155 rfl rfl ?_
  refine w_iload dL_law_156 rfl ?_
  refine w_iconst dL_law_158 (v := 4) (by decide) ?_
  refine w_iadd dL_law_159 ?_
  refine w_sld dL_law_160 hs.2.2.2.1 ?_
  refine w_aload_n dL_law_161 rfl rfl ?_
  refine w_iload dL_law_162 rfl ?_
  refine w_iconst dL_law_164 (v := 5) (by decide) ?_
  refine w_iadd dL_law_165 ?_
  refine w_sld dL_law_166 hs.2.2.2.2 ?_
  refine w_v5 (d2 := 2) (L2 := 42) dL_law_167 vL_36 rfl (S.lt (by decide)) rfl rfl rfl rfl rfl (by decide) (Nat.le_of_ble_eq_true rfl) (by decide) (by decide) ?_
  refine T_cfeed Sm.rf q.tc (fun c0 => ?_) (fun c0 h1 f1 r1 => ?_)
  · refine k_i rfl ?_
    refine w_aload_n dL_law_170 rfl rfl ?_
    refine w_aload_n dL_law_171 rfl rfl ?_
    refine w_iload dL_law_172 rfl ?_
    refine w_iconst dL_law_174 (v := 1) (by decide) ?_
    refine w_iadd dL_law_175 ?_
    refine w_sld dL_law_176 hs.1 ?_
    refine w_aload_n dL_law_177 rfl rfl ?_
    refine w_iload dL_law_178 rfl ?_
    refine w_iconst dL_law_180 (v := 2) (by decide) ?_
    refine w_iadd dL_law_181 ?_
    refine w_sld dL_law_182 hs.2.1 ?_
    refine w_aload_n dL_law_183 rfl rfl ?_
    refine w_iload dL_law_184 rfl ?_
    refine w_iconst dL_law_186 (v := 3) (by decide) ?_
    refine w_iadd dL_law_187 ?_
    refine w_sld dL_law_188 hs.2.2.1 ?_
    refine w_aload_n dL_law_189 rfl rfl ?_
    refine w_iload dL_law_190 rfl ?_
    refine w_iconst dL_law_192 (v := 4) (by decide) ?_
    refine w_iadd dL_law_193 ?_
    refine w_sld dL_law_194 hs.2.2.2.1 ?_
    refine w_aload_n dL_law_195 rfl rfl ?_
    refine w_iload dL_law_196 rfl ?_
    refine w_iconst dL_law_198 (v := 5) (by decide) ?_
    refine w_iadd dL_law_199 ?_
    refine w_sld dL_law_200 hs.2.2.2.2 ?_
    refine w_v5 (d2 := 1) (L2 := 22) dL_law_201 vL_40 rfl (S.lt (by decide)) rfl rfl rfl rfl rfl (by decide) (Nat.le_of_ble_eq_true rfl) (by decide) (by decide) ?_
    refine T_mfeed q.rt (fun _ h2 f2 r2 => ?_) (fun c1 => absurd c1 c0)
    refine k_i rfl ?_
    refine w_icmp_eq (tgt := 832) dL_law_204 (by decide) (fun _ => ?_) (fun c9 => absurd rfl c9)
    exact kk e h2 σ τ T L κ _ _ (Nat.le_succ _) ⟨q.mt f2 r2 rfl, ⟨x, y, w⟩, bT, bL, wk⟩
  · refine k_i rfl ?_
    have q1 := q.ct f1 r1
    refine w_aload_n dL_law_170 rfl rfl ?_
    refine w_aload_n dL_law_171 rfl rfl ?_
    refine w_iload dL_law_172 rfl ?_
    refine w_iconst dL_law_174 (v := 1) (by decide) ?_
    refine w_iadd dL_law_175 ?_
    refine w_sld dL_law_176 hs.1 ?_
    refine w_aload_n dL_law_177 rfl rfl ?_
    refine w_iload dL_law_178 rfl ?_
    refine w_iconst dL_law_180 (v := 2) (by decide) ?_
    refine w_iadd dL_law_181 ?_
    refine w_sld dL_law_182 hs.2.1 ?_
    refine w_aload_n dL_law_183 rfl rfl ?_
    refine w_iload dL_law_184 rfl ?_
    refine w_iconst dL_law_186 (v := 3) (by decide) ?_
    refine w_iadd dL_law_187 ?_
    refine w_sld dL_law_188 hs.2.2.1 ?_
    refine w_aload_n dL_law_189 rfl rfl ?_
    refine w_iload dL_law_190 rfl ?_
    refine w_iconst dL_law_192 (v := 4) (by decide) ?_
    refine w_iadd dL_law_193 ?_
    refine w_sld dL_law_194 hs.2.2.2.1 ?_
    refine w_aload_n dL_law_195 rfl rfl ?_
    refine w_iload dL_law_196 rfl ?_
    refine w_iconst dL_law_198 (v := 5) (by decide) ?_
    refine w_iadd dL_law_199 ?_
    refine w_sld dL_law_200 hs.2.2.2.2 ?_
    refine w_v5 (d2 := 1) (L2 := 22) dL_law_201 vL_40 rfl (q1.S.lt (by decide)) rfl rfl rfl rfl rfl (by decide) (Nat.le_of_ble_eq_true rfl) (by decide) (by decide) ?_
    refine T_mfeed q1.rt (fun c1 => absurd c0 c1) (fun _ h2 f2 r2 => ?_)
    refine k_i rfl ?_
    refine w_icmp_eq (tgt := 832) dL_law_204 (by decide) (fun _ => ?_) (fun c9 => absurd rfl c9)
    exact kk e h2 σ τ _ L κ _ _ (Nat.le_succ _) ⟨q1.mt f2 r2 (feS_len _ _ _ _ _ _), ⟨x, y, w⟩, byt_fe bT _ _ _ _ _, bL, wk⟩
set_option maxHeartbeats 4000000 in
theorem C_end {X : Nat × (Nat → Int32)} {Q : Option Value → PH → Prop} {e : Nat} {i : Int32} {a5 a6 : Option Value} {h : PH} {σ τ : MS} {T L : List Int32} {κ : KE} (hs : SC X i) (j : JJ e h σ τ T L κ) (kk : KK X Q e i) : WP X mL_law 16 614 209 (lwl i a5 a6) [] h Q := by
  obtain ⟨q, ⟨x, y, w⟩, bT, bL, wk⟩ := j
  have S := q.S
  refine w_aload_n dL_law_209 rfl rfl ?_
  refine w_aload_n dL_law_210 rfl rfl ?_
  refine w_iload dL_law_211 rfl ?_
  refine w_iconst dL_law_213 (v := 1) (by decide) ?_
  refine w_iadd dL_law_214 ?_
  refine w_sld dL_law_215 hs.1 ?_
  refine w_v1 (d2 := 1) (L2 := 21) dL_law_216 vL_41 rfl (S.lt (by decide)) rfl (by decide) (Nat.le_of_ble_eq_true rfl) (by decide) (by decide) ?_
  refine T_cend Sm.rf q.tc (fun c0 => ?_) (fun m hm em h1 f1 r1 => ?_)
  · refine k_i rfl ?_
    refine w_aload_n dL_law_219 rfl rfl ?_
    refine w_aload_n dL_law_220 rfl rfl ?_
    refine w_iload dL_law_221 rfl ?_
    refine w_iconst dL_law_223 (v := 1) (by decide) ?_
    refine w_iadd dL_law_224 ?_
    refine w_sld dL_law_225 hs.1 ?_
    refine w_v1 (d2 := 0) (L2 := 0) dL_law_226 vL_45 rfl (S.lt (by decide)) rfl (by decide) (Nat.le_of_ble_eq_true rfl) (by decide) (by decide) ?_
    refine T_mend q.rt (fun _ h2 f2 r2 => ?_) (fun m hm em => absurd (by rw [em] at c0; exact c0) (end_no hm q.rt.2.2.1))
    refine k_i rfl ?_
    refine w_icmp_eq (tgt := 832) dL_law_229 (by decide) (fun _ => ?_) (fun c9 => absurd rfl c9)
    exact kk e h2 σ τ T L κ _ _ (Nat.le_succ _) ⟨q.mt f2 r2 rfl, ⟨x, y, w⟩, bT, bL, wk⟩
  · refine k_i rfl ?_
    have q1 := q.ct f1 r1
    refine w_aload_n dL_law_219 rfl rfl ?_
    refine w_aload_n dL_law_220 rfl rfl ?_
    refine w_iload dL_law_221 rfl ?_
    refine w_iconst dL_law_223 (v := 1) (by decide) ?_
    refine w_iadd dL_law_224 ?_
    refine w_sld dL_law_225 hs.1 ?_
    refine w_v1 (d2 := 0) (L2 := 0) dL_law_226 vL_45 rfl (q1.S.lt (by decide)) rfl (by decide) (Nat.le_of_ble_eq_true rfl) (by decide) (by decide) ?_
    refine T_mend q1.rt (fun c0 => absurd (by rw [em] at c0; exact c0) (end_no hm q.rt.2.2.1)) (fun m2 hm2 em2 h2 f2 r2 => ?_)
    refine k_i rfl ?_
    refine w_icmp_eq (tgt := 832) dL_law_229 (by decide) (fun _ => ?_) (fun c9 => absurd rfl c9)
    have l4 := q.rt.2.2.1
    have e2 : m2 = m := (nI_eq (by omega) (by omega)).mp (em2.symm.trans em)
    subst e2
    exact kk e h2 σ τ _ L κ _ _ (Nat.le_succ _) ⟨q1.mt f2 r2 (by rw [List.length_take]; omega), ⟨x, y, w⟩, bT.take _, bL, wk⟩
set_option maxHeartbeats 4000000 in
theorem C_assemble {X : Nat × (Nat → Int32)} {Q : Option Value → PH → Prop} {e : Nat} {i : Int32} {a5 a6 : Option Value} {h : PH} {σ τ : MS} {T L : List Int32} {κ : KE} (hs : SC X i) (j : JJ e h σ τ T L κ) (kk : KK X Q e i) : WP X mL_law 16 614 234 (lwl i a5 a6) [] h Q := by
  obtain ⟨q, ⟨x, y, w⟩, bT, bL, wk⟩ := j
  have S := q.S
  refine w_aload_n dL_law_234 rfl rfl ?_
  refine w_v0 (d2 := 7) (L2 := 158) dL_law_235 vL_46 rfl (S.lt (by decide)) (by decide) (Nat.le_of_ble_eq_true rfl) (by decide) (by decide) ?_
  refine T_casm S bT q.ck q.tc (fun h1 f1 r1 r2 => ?_)
  refine k_i rfl ?_
  have q1 := q.ca f1 r1 r2
  refine w_aload_n dL_law_238 rfl rfl ?_
  refine w_v0 (d2 := 12) (L2 := 264) dL_law_239 vL_50 rfl (q1.S.lt (by decide)) (by decide) (Nat.le_of_ble_eq_true rfl) (by decide) (by decide) ?_
  refine T_masm bT q1.rt q1.mk (fun h2 f2 z2 r3 r4 => ?_)
  refine k_i rfl ?_
  refine w_icmp_eq (tgt := 832) dL_law_242 (by decide) (fun _ => ?_) (fun c9 => absurd rfl c9)
  exact kk e h2 σ τ [] L _ _ _ (Nat.le_succ _) ⟨q1.ma f2 r3 r4, ⟨x, y, w⟩, Byt.nil, bL, as_w wk⟩
theorem CK.ord {h : PH} {κ : KE} (q : CK h κ) : κ.2.2.2.2.2 + κ.2.2.2.1.length ≤ 65536 := by
  obtain ⟨D, hD, r4, r5, i6, i7, i8, g1, g2, g3, g4, g5, g6, g7⟩ := q
  exact g7
theorem CK.org {h : PH} {κ : KE} (q : CK h κ) : κ.2.2.2.2.2 < 65536 := by
  obtain ⟨D, hD, r4, r5, i6, i7, i8, g1, g2, g3, g4, g5, g6, g7⟩ := q
  omega
set_option maxHeartbeats 4000000 in
theorem C_load {X : Nat × (Nat → Int32)} {Q : Option Value → PH → Prop} {e : Nat} {i : Int32} {a5 a6 : Option Value} {h : PH} {σ τ : MS} {T L : List Int32} {κ : KE} (hs : SC X i) (j : JJ e h σ τ T L κ) (kk : KK X Q e i) : WP X mL_law 16 614 415 (lwl i a5 a6) [] h Q := by
  obtain ⟨q, ⟨x, y, w⟩, bT, bL, wk⟩ := j
  have S := q.S
  refine w_aload_n dL_law_415 rfl rfl ?_
  refine w_v0 (d2 := 2) (L2 := 45) dL_law_416 vL_66 rfl (S.lt (by decide)) (by decide) (Nat.le_of_ble_eq_true rfl) (by decide) (by decide) ?_
  refine T_cload S q.ck wk q.rc (fun c0 => ?_) (fun c0 h1 f1 r1 => ?_)
  · refine k_i rfl ?_
    refine w_aload_n dL_law_419 rfl rfl ?_
    refine w_v0 (d2 := 1) (L2 := 21) dL_law_420 vL_70 rfl (S.lt (by decide)) (by decide) (Nat.le_of_ble_eq_true rfl) (by decide) (by decide) ?_
    refine T_mload q.mk q.ck.ord q.rm (fun _ h2 f2 r2 => ?_) (fun c1 => absurd c0 c1)
    refine k_i rfl ?_
    refine w_icmp_eq (tgt := 832) dL_law_423 (by decide) (fun _ => ?_) (fun c9 => absurd rfl c9)
    exact kk e h2 σ τ T L κ _ _ (Nat.le_succ _) ⟨q.mm f2 r2, ⟨x, y, w⟩, bT, bL, wk⟩
  · refine k_i rfl ?_
    have q1 := q.cm f1 r1
    refine w_aload_n dL_law_419 rfl rfl ?_
    refine w_v0 (d2 := 1) (L2 := 21) dL_law_420 vL_70 rfl (q1.S.lt (by decide)) (by decide) (Nat.le_of_ble_eq_true rfl) (by decide) (by decide) ?_
    refine T_mload q1.mk q.ck.ord q1.rm (fun c1 => absurd c1 c0) (fun _ h2 f2 r2 => ?_)
    refine k_i rfl ?_
    refine w_icmp_eq (tgt := 832) dL_law_423 (by decide) (fun _ => ?_) (fun c9 => absurd rfl c9)
    exact kk e h2 _ _ T L κ _ _ (Nat.le_succ _) ⟨q1.mm f2 r2, ⟨x, y, w.load q.ck.org wk⟩, bT, bL, wk⟩
set_option maxHeartbeats 4000000 in
theorem C_key {X : Nat × (Nat → Int32)} {Q : Option Value → PH → Prop} {e : Nat} {i : Int32} {a5 a6 : Option Value} {h : PH} {σ τ : MS} {T L : List Int32} {κ : KE} (hs : SC X i) (j : JJ e h σ τ T L κ) (kk : KK X Q e i) : WP X mL_law 16 614 428 (lwl i a5 a6) [] h Q := by
  obtain ⟨q, ⟨x, y, w⟩, bT, bL, wk⟩ := j
  have S := q.S
  refine w_aload_n dL_law_428 rfl rfl ?_
  refine w_aload_n dL_law_429 rfl rfl ?_
  refine w_iload dL_law_430 rfl ?_
  refine w_iconst dL_law_432 (v := 1) (by decide) ?_
  refine w_iadd dL_law_433 ?_
  refine w_sld dL_law_434 hs.1 ?_
  refine w_v1 (d2 := 2) (L2 := 42) dL_law_435 vL_71 rfl (S.lt (by decide)) rfl (by decide) (Nat.le_of_ble_eq_true rfl) (by decide) (by decide) ?_
  refine T_ckey Fm.rf q.rc (fun h1 f1 r1 => ?_)
  refine k_i rfl ?_
  have q1 := q.cm f1 r1
  refine w_aload_n dL_law_438 rfl rfl ?_
  refine w_aload_n dL_law_439 rfl rfl ?_
  refine w_iload dL_law_440 rfl ?_
  refine w_iconst dL_law_442 (v := 1) (by decide) ?_
  refine w_iadd dL_law_443 ?_
  refine w_sld dL_law_444 hs.1 ?_
  refine w_v1 (d2 := 0) (L2 := 0) dL_law_445 vL_74 rfl (q1.S.lt (by decide)) rfl (by decide) (Nat.le_of_ble_eq_true rfl) (by decide) (by decide) ?_
  refine T_mkey q1.rm (fun h2 f2 r2 => ?_)
  refine k_i rfl ?_
  refine w_icmp_eq (tgt := 832) dL_law_448 (by decide) (fun _ => ?_) (fun c9 => absurd (by rw [w.1.2.2.2.1]) c9)
  exact kk e h2 _ _ T L κ _ _ (Nat.le_succ _) ⟨q1.mm f2 r2, ⟨x, y, w.typ _⟩, bT, bL, wk⟩
set_option maxHeartbeats 4000000 in
theorem C_set {X : Nat × (Nat → Int32)} {Q : Option Value → PH → Prop} {e : Nat} {i : Int32} {a5 a6 : Option Value} {h : PH} {σ τ : MS} {T L : List Int32} {κ : KE} (hs : SC X i) (j : JJ e h σ τ T L κ) (kk : KK X Q e i) : WP X mL_law 16 614 578 (lwl i a5 a6) [] h Q := by
  obtain ⟨q, ⟨x, y, w⟩, bT, bL, wk⟩ := j
  have S := q.S
  by_cases hb : (X.2 (i + 1).toNatClampNeg) < 0 ∨ ¬ (X.2 (i + 1).toNatClampNeg) ≤ 11
  · refine w_aload_n dL_law_578 rfl rfl ?_
    refine w_aload_n dL_law_579 rfl rfl ?_
    refine w_iload dL_law_580 rfl ?_
    refine w_iconst dL_law_582 (v := 1) (by decide) ?_
    refine w_iadd dL_law_583 ?_
    refine w_sld dL_law_584 hs.1 ?_
    refine w_aload_n dL_law_585 rfl rfl ?_
    refine w_iload dL_law_586 rfl ?_
    refine w_iconst dL_law_588 (v := 2) (by decide) ?_
    refine w_iadd dL_law_589 ?_
    refine w_sld dL_law_590 hs.2.1 ?_
    refine w_v2 (d2 := 0) (L2 := 0) dL_law_591 vL_85 rfl (S.lt (by decide)) rfl rfl (by decide) (Nat.le_of_ble_eq_true rfl) (by decide) (by decide) ?_
    refine T_csetX (σ := σ) (le_lt12 hb) ?_
    refine k_i rfl ?_
    refine w_aload_n dL_law_594 rfl rfl ?_
    refine w_aload_n dL_law_595 rfl rfl ?_
    refine w_iload dL_law_596 rfl ?_
    refine w_iconst dL_law_598 (v := 1) (by decide) ?_
    refine w_iadd dL_law_599 ?_
    refine w_sld dL_law_600 hs.1 ?_
    refine w_aload_n dL_law_601 rfl rfl ?_
    refine w_iload dL_law_602 rfl ?_
    refine w_iconst dL_law_604 (v := 2) (by decide) ?_
    refine w_iadd dL_law_605 ?_
    refine w_sld dL_law_606 hs.2.1 ?_
    refine w_v2 (d2 := 1) (L2 := 20) dL_law_607 vL_89 rfl (S.lt (by decide)) rfl rfl (by decide) (Nat.le_of_ble_eq_true rfl) (by decide) (by decide) ?_
    refine T_msetX hb q.rm (fun h2 f2 r2 => ?_)
    refine k_i rfl ?_
    refine w_icmp_eq (tgt := 832) dL_law_610 (by decide) (fun _ => ?_) (fun c9 => absurd rfl c9)
    exact kk e h2 σ τ T L κ _ _ (Nat.le_succ _) ⟨q.mm f2 r2, ⟨x, y, w⟩, bT, bL, wk⟩
  · obtain ⟨m, hm, em⟩ := nI_up (n := 11) (by decide) hb
    refine w_aload_n dL_law_578 rfl rfl ?_
    refine w_aload_n dL_law_579 rfl rfl ?_
    refine w_iload dL_law_580 rfl ?_
    refine w_iconst dL_law_582 (v := 1) (by decide) ?_
    refine w_iadd dL_law_583 ?_
    refine w_sld dL_law_584 hs.1 ?_
    refine w_aload_n dL_law_585 rfl rfl ?_
    refine w_iload dL_law_586 rfl ?_
    refine w_iconst dL_law_588 (v := 2) (by decide) ?_
    refine w_iadd dL_law_589 ?_
    refine w_sld dL_law_590 hs.2.1 ?_
    refine w_v2 (d2 := 0) (L2 := 0) dL_law_591 vL_85 rfl (S.lt (by decide)) rfl rfl (by decide) (Nat.le_of_ble_eq_true rfl) (by decide) (by decide) ?_
    rw [em]
    refine T_cset hm Fm.rf q.rc (fun h1 f1 r1 => ?_)
    refine k_i rfl ?_
    have q1 := q.cm f1 r1
    refine w_aload_n dL_law_594 rfl rfl ?_
    refine w_aload_n dL_law_595 rfl rfl ?_
    refine w_iload dL_law_596 rfl ?_
    refine w_iconst dL_law_598 (v := 1) (by decide) ?_
    refine w_iadd dL_law_599 ?_
    refine w_sld dL_law_600 hs.1 ?_
    refine w_aload_n dL_law_601 rfl rfl ?_
    refine w_iload dL_law_602 rfl ?_
    refine w_iconst dL_law_604 (v := 2) (by decide) ?_
    refine w_iadd dL_law_605 ?_
    refine w_sld dL_law_606 hs.2.1 ?_
    refine w_v2 (d2 := 1) (L2 := 20) dL_law_607 vL_89 rfl (q1.S.lt (by decide)) rfl rfl (by decide) (Nat.le_of_ble_eq_true rfl) (by decide) (by decide) ?_
    rw [em]
    refine T_mset hm q1.rm (fun h2 f2 r2 => ?_)
    refine k_i rfl ?_
    refine w_icmp_eq (tgt := 832) dL_law_610 (by decide) (fun _ => ?_) (fun c9 => absurd rfl c9)
    exact kk e h2 _ _ T L κ _ _ (Nat.le_succ _) ⟨q1.mm f2 r2, ⟨x, y, w.G (by omega) (fun _ => by split; exact W16.and _ (n := 34567) (by decide) rfl; exact w_and _)⟩, bT, bL, wk⟩
theorem ix_and (p : Int32) : ix (p &&& 65535) = ix p := by
  rw [pk_and p 16 (by decide)]
  unfold ix
  rw [pk_tn (by omega)]
  omega
set_option maxHeartbeats 4000000 in
theorem C_poke {X : Nat × (Nat → Int32)} {Q : Option Value → PH → Prop} {e : Nat} {i : Int32} {a5 a6 : Option Value} {h : PH} {σ τ : MS} {T L : List Int32} {κ : KE} (hs : SC X i) (j : JJ e h σ τ T L κ) (kk : KK X Q e i) : WP X mL_law 16 614 640 (lwl i a5 a6) [] h Q := by
  obtain ⟨q, ⟨x, y, w⟩, bT, bL, wk⟩ := j
  have S := q.S
  refine w_aload_n dL_law_640 rfl rfl ?_
  refine w_aload_n dL_law_641 rfl rfl ?_
  refine w_iload dL_law_642 rfl ?_
  refine w_iconst dL_law_644 (v := 1) (by decide) ?_
  refine w_iadd dL_law_645 ?_
  refine w_sld dL_law_646 hs.1 ?_
  refine w_aload_n dL_law_647 rfl rfl ?_
  refine w_iload dL_law_648 rfl ?_
  refine w_iconst dL_law_650 (v := 2) (by decide) ?_
  refine w_iadd dL_law_651 ?_
  refine w_sld dL_law_652 hs.2.1 ?_
  refine w_v2 (d2 := 1) (L2 := 23) dL_law_653 vL_94 rfl (S.lt (by decide)) rfl rfl (by decide) (Nat.le_of_ble_eq_true rfl) (by decide) (by decide) ?_
  refine T_cpoke Fm.rf q.rc (fun h1 f1 r1 => ?_)
  refine k_v rfl ?_
  have q1 := q.cm f1 r1
  refine w_aload_n dL_law_656 rfl rfl ?_
  refine w_aload_n dL_law_657 rfl rfl ?_
  refine w_iload dL_law_658 rfl ?_
  refine w_iconst dL_law_660 (v := 1) (by decide) ?_
  refine w_iadd dL_law_661 ?_
  refine w_sld dL_law_662 hs.1 ?_
  refine w_aload_n dL_law_663 rfl rfl ?_
  refine w_iload dL_law_664 rfl ?_
  refine w_iconst dL_law_666 (v := 2) (by decide) ?_
  refine w_iadd dL_law_667 ?_
  refine w_sld dL_law_668 hs.2.1 ?_
  refine w_v2 (d2 := 1) (L2 := 20) dL_law_669 vL_98 rfl (q1.S.lt (by decide)) rfl rfl (by decide) (Nat.le_of_ble_eq_true rfl) (by decide) (by decide) ?_
  refine T_mpoke q1.rm (fun h2 f2 r2 => ?_)
  refine k_v rfl ?_
  refine w_goto (tgt := 832) dL_law_672 (by decide) ?_
  exact kk e h2 _ _ T L κ _ _ (Nat.le_succ _) ⟨q1.mm f2 r2, ⟨x, y, by rw [(w_and _).ixe, ix_and]; exact w.mem (w_and _)⟩, bT, bL, wk⟩
theorem lw_byt {n : Nat} (hn9 : n < 65536) : Byt (lwT (dN n) (nI n)) := by
  have h := (lw_ok (fN_lt n mkB 0 (by decide)) (fN_4 n) (nI n)).2
  rw [fd_e hn9] at h
  intro v hv
  have := List.all_eq_true.mp h v hv
  rw [decide_eq_true_eq] at this
  rw [← this]; exact b_and _
set_option maxHeartbeats 4000000 in
theorem C_write {X : Nat × (Nat → Int32)} {Q : Option Value → PH → Prop} {e : Nat} {i : Int32} {a5 a6 : Option Value} {h : PH} {σ τ : MS} {T L : List Int32} {κ : KE} (hs : SC X i) (j : JJ e h σ τ T L κ) (kk : KK X Q e i) : WP X mL_law 16 614 675 (lwl i a5 a6) [] h Q := by
  obtain ⟨q, ⟨x, y, w⟩, bT, bL, wk⟩ := j
  have S := q.S
  obtain ⟨n, hn9, en9⟩ := (w.look (w_and (X.2 (i + 1).toNatClampNeg))).2
  have ec := (w.look (w_and (X.2 (i + 1).toNatClampNeg))).1.trans en9
  refine w_aload_n dL_law_675 rfl rfl ?_
  refine w_aload_n dL_law_676 rfl rfl ?_
  refine w_iload dL_law_677 rfl ?_
  refine w_iconst dL_law_679 (v := 1) (by decide) ?_
  refine w_iadd dL_law_680 ?_
  refine w_sld dL_law_681 hs.1 ?_
  refine w_v1 (d2 := 8) (L2 := 175) dL_law_682 vL_99 rfl (S.lt (by decide)) rfl (by decide) (Nat.le_of_ble_eq_true rfl) (by decide) (by decide) ?_
  refine T_cwrite hn9 ec q.rc q.lc (fun h1 f1 r1 => ?_)
  refine k_i rfl ?_
  have ls9 := lw_same hn9
  rw [ls9.1] at r1 ⊢
  have q1 := q.cw f1 r1
  refine w_aload_n dL_law_685 rfl rfl ?_
  refine w_aload_n dL_law_686 rfl rfl ?_
  refine w_iload dL_law_687 rfl ?_
  refine w_iconst dL_law_689 (v := 1) (by decide) ?_
  refine w_iadd dL_law_690 ?_
  refine w_sld dL_law_691 hs.1 ?_
  refine w_v1 (d2 := 8) (L2 := 175) dL_law_692 vL_102 rfl (q1.S.lt (by decide)) rfl (by decide) (Nat.le_of_ble_eq_true rfl) (by decide) (by decide) ?_
  refine T_mwrite hn9 en9 q1.rm (fun h2 f2 r2 => ?_)
  refine k_i rfl ?_
  refine w_icmp_eq (tgt := 832) dL_law_695 (by decide) (fun _ => ?_) (fun c9 => absurd rfl c9)
  exact kk e h2 σ τ T _ κ _ _ (Nat.le_succ _) ⟨q1.mw f2 r2 ls9.2, ⟨x, y, w⟩, bT, lw_byt hn9, wk⟩
set_option maxHeartbeats 4000000 in
theorem C_written {X : Nat × (Nat → Int32)} {Q : Option Value → PH → Prop} {e : Nat} {i : Int32} {a5 a6 : Option Value} {h : PH} {σ τ : MS} {T L : List Int32} {κ : KE} (hs : SC X i) (j : JJ e h σ τ T L κ) (kk : KK X Q e i) : WP X mL_law 16 614 700 (lwl i a5 a6) [] h Q := by
  obtain ⟨q, ⟨x, y, w⟩, bT, bL, wk⟩ := j
  have S := q.S
  refine w_aload_n dL_law_700 rfl rfl ?_
  refine w_aload_n dL_law_701 rfl rfl ?_
  refine w_iload dL_law_702 rfl ?_
  refine w_iconst dL_law_704 (v := 1) (by decide) ?_
  refine w_iadd dL_law_705 ?_
  refine w_sld dL_law_706 hs.1 ?_
  refine w_v1 (d2 := 1) (L2 := 21) dL_law_707 vL_103 rfl (S.lt (by decide)) rfl (by decide) (Nat.le_of_ble_eq_true rfl) (by decide) (by decide) ?_
  refine T_cwritten q.lc ?_
  refine k_i rfl ?_
  refine w_aload_n dL_law_710 rfl rfl ?_
  refine w_aload_n dL_law_711 rfl rfl ?_
  refine w_iload dL_law_712 rfl ?_
  refine w_iconst dL_law_714 (v := 1) (by decide) ?_
  refine w_iadd dL_law_715 ?_
  refine w_sld dL_law_716 hs.1 ?_
  refine w_v1 (d2 := 0) (L2 := 0) dL_law_717 vL_106 rfl (S.lt (by decide)) rfl (by decide) (Nat.le_of_ble_eq_true rfl) (by decide) (by decide) ?_
  refine T_mwritten q.lr q.rt (fun h2 f2 r2 => ?_)
  refine k_i rfl ?_
  refine w_icmp_eq (tgt := 832) dL_law_720 (by decide) (fun _ => ?_) (fun c9 => absurd rfl c9)
  exact kk e h2 σ τ T L κ _ _ (Nat.le_succ _) ⟨q.mt f2 r2 rfl, ⟨x, y, w⟩, bT, bL, wk⟩
set_option maxHeartbeats 4000000 in
theorem C_again {X : Nat × (Nat → Int32)} {Q : Option Value → PH → Prop} {e : Nat} {i : Int32} {a5 a6 : Option Value} {h : PH} {σ τ : MS} {T L : List Int32} {κ : KE} (hs : SC X i) (j : JJ e h σ τ T L κ) (kk : KK X Q e i) : WP X mL_law 16 614 725 (lwl i a5 a6) [] h Q := by
  obtain ⟨q, ⟨x, y, w⟩, bT, bL, wk⟩ := j
  have S := q.S
  refine w_aload_n dL_law_725 rfl rfl ?_
  refine w_v0 (d2 := 1) (L2 := 21) dL_law_726 vL_107 rfl (S.lt (by decide)) (by decide) (Nat.le_of_ble_eq_true rfl) (by decide) (by decide) ?_
  refine T_cagain q.lc.2 q.tc (fun c0 => ?_) (fun c0 h1 f1 r1 => ?_)
  · refine k_i rfl ?_
    refine w_aload_n dL_law_729 rfl rfl ?_
    refine w_v0 (d2 := 0) (L2 := 0) dL_law_730 vL_110 rfl (S.lt (by decide)) (by decide) (Nat.le_of_ble_eq_true rfl) (by decide) (by decide) ?_
    refine T_magain q.lr q.rt (fun _ h2 f2 r2 => ?_) (fun c1 => absurd c1 c0)
    refine k_i rfl ?_
    refine w_icmp_eq (tgt := 832) dL_law_733 (by decide) (fun _ => ?_) (fun c9 => absurd rfl c9)
    exact kk e h2 σ τ T L κ _ _ (Nat.le_succ _) ⟨q.mt f2 r2 rfl, ⟨x, y, w⟩, bT, bL, wk⟩
  · refine k_i rfl ?_
    have q1 := q.ct f1 r1
    refine w_aload_n dL_law_729 rfl rfl ?_
    refine w_v0 (d2 := 0) (L2 := 0) dL_law_730 vL_110 rfl (q1.S.lt (by decide)) (by decide) (Nat.le_of_ble_eq_true rfl) (by decide) (by decide) ?_
    refine T_magain q1.lr q1.rt (fun c1 => absurd c0 c1) (fun _ h2 f2 r2 => ?_)
    refine k_i rfl ?_
    refine w_icmp_eq (tgt := 832) dL_law_733 (by decide) (fun _ => ?_) (fun c9 => absurd rfl c9)
    exact kk e h2 σ τ _ L κ _ _ (Nat.le_succ _) ⟨q1.mt f2 r2 (by simp only [List.length_append, List.length_cons, List.length_nil]), ⟨x, y, w⟩, (bT.app bL).app (fun v hv => by rw [List.mem_singleton.mp hv]; exact ⟨10, by decide, rfl⟩), bL, wk⟩
set_option maxHeartbeats 4000000 in
theorem C_told {X : Nat × (Nat → Int32)} {Q : Option Value → PH → Prop} {e : Nat} {i : Int32} {a5 a6 : Option Value} {h : PH} {σ τ : MS} {T L : List Int32} {κ : KE} (hs : SC X i) (j : JJ e h σ τ T L κ) (kk : KK X Q e i) : WP X mL_law 16 614 247 (lwl i a5 a6) [] h Q := by
  obtain ⟨q, ⟨x, y, w⟩, bT, bL, wk⟩ := j
  have S := q.S
  rcases Option.eq_none_or_eq_some (tdS κ (X.2 (i + 1).toNatClampNeg)) with ev | ⟨v, ev⟩
  · obtain ⟨r9, hE, hRt, e9⟩ : WP X mX10_told 1 20 0 (en 2 [.ref 0, .int (X.2 (i + 1).toNatClampNeg)]) [] h (fun r h1 => r = some (.retAddr 85) ∧ h1 = h) := T_ctold S q.ck (fun v9 e9 => absurd (ev.symm.trans e9) (by simp)) (fun _ => ⟨rfl, rfl⟩)
    obtain ⟨rfl, rfl⟩ := e9
    refine w_aload_n dL_law_247 rfl rfl ?_
    refine w_aload_n dL_law_248 rfl rfl ?_
    refine w_iload dL_law_249 rfl ?_
    refine w_iconst dL_law_251 (v := 1) (by decide) ?_
    refine w_iadd dL_law_252 ?_
    refine w_sld dL_law_253 hs.1 ?_
    refine w_aload_n dL_law_254 rfl rfl ?_
    refine w_callH (As := [.ref 0, .int (X.2 (i + 1).toNatClampNeg), .ref 39]) (rest := []) dL_law_255 HF_told.1 hl_told.1 hl_told.2 rfl rfl (by decide) (by decide) (by decide) (HP_bad HF_told hRt TR_told ⟨by decide, by decide⟩ S.1) ?_
    show WP X mL_law 16 614 _ (lwl i a5 a6) [.int 1] (hX hE) Q
    refine w_istore dL_law_258 (by decide) ?_
    show WP X mL_law 16 614 _ (lwl i (some (.int 1)) a6) [] (hX hE) Q
    have q2 : HH (e + 1) (hX hE) σ τ T T L L κ κ := q.hx
    refine w_aload_n dL_law_260 rfl rfl ?_
    refine w_aload_n dL_law_261 rfl rfl ?_
    refine w_iload dL_law_262 rfl ?_
    refine w_iconst dL_law_264 (v := 1) (by decide) ?_
    refine w_iadd dL_law_265 ?_
    refine w_sld dL_law_266 hs.1 ?_
    refine w_v1 (d2 := 0) (L2 := 0) dL_law_267 vL_56 rfl (q2.S.lt (by decide)) rfl (by decide) (Nat.le_of_ble_eq_true rfl) (by decide) (by decide) ?_
    refine T_mtold q2.S q2.mk (fun v9 e9 => absurd (ev.symm.trans e9) (by simp)) (fun _ => ?_)
    refine k_i rfl ?_
    refine w_istore dL_law_270 (by decide) ?_
    show WP X mL_law 16 614 _ (lwl i (some (.int 1)) (some (.int _))) [] (sI (hX hE) 25 0 1) Q
    have q3 : HH (e + 1) (sI (hX hE) 25 0 1) σ τ T T L L κ κ := q2.th
    refine w_aload_n dL_law_272 rfl rfl ?_
    refine w_v0 (d2 := 0) (L2 := 0) dL_law_273 vL_57 rfl (q3.S.lt (by decide)) (by decide) (Nat.le_of_ble_eq_true rfl) (by decide) (by decide) ?_
    refine T_mthrown (τ := τ) q3.S ?_
    rw [rI_s]
    refine k_i rfl ?_
    refine w_iload dL_law_276 rfl ?_
    refine w_icmp_eq (tgt := 283) dL_law_278 (by decide) (fun _ => ?_) (fun c9 => absurd rfl c9)
    refine w_iload dL_law_283 rfl ?_
    refine w_if_ne (tgt := 300) dL_law_285 (by decide) (fun _ => ?_) (fun c9 => absurd c9 (by decide))
    refine w_goto (tgt := 832) dL_law_300 (by decide) ?_
    exact kk (e + 1) (sI (hX hE) 25 0 1) σ τ T L κ _ _ (Nat.le_refl _) ⟨q3, ⟨x, y, w⟩, bT, bL, wk⟩
  · obtain ⟨r9, hE, hRt, e9⟩ : WP X mX10_told 1 20 0 (en 2 [.ref 0, .int (X.2 (i + 1).toNatClampNeg)]) [] h (fun r h1 => r = some (.int v) ∧ h1 = h) := T_ctold S q.ck (fun v9 e9 => by cases ev.symm.trans e9; exact ⟨rfl, rfl⟩) (fun e9 => absurd (ev.symm.trans e9) (by simp))
    obtain ⟨rfl, rfl⟩ := e9
    refine w_aload_n dL_law_247 rfl rfl ?_
    refine w_aload_n dL_law_248 rfl rfl ?_
    refine w_iload dL_law_249 rfl ?_
    refine w_iconst dL_law_251 (v := 1) (by decide) ?_
    refine w_iadd dL_law_252 ?_
    refine w_sld dL_law_253 hs.1 ?_
    refine w_aload_n dL_law_254 rfl rfl ?_
    refine w_callH (As := [.ref 0, .int (X.2 (i + 1).toNatClampNeg), .ref 39]) (rest := []) dL_law_255 HF_told.1 hl_told.1 hl_told.2 rfl rfl (by decide) (by decide) (by decide) (HP_good HF_told hRt ⟨by decide, by decide⟩ S.1) ?_
    show WP X mL_law 16 614 _ (lwl i a5 a6) [.int 0] (sL hE 39 0 v.toInt64) Q
    refine w_istore dL_law_258 (by decide) ?_
    show WP X mL_law 16 614 _ (lwl i (some (.int 0)) a6) [] (sL hE 39 0 v.toInt64) Q
    have q2 : HH e (sL hE 39 0 v.toInt64) σ τ T T L L κ κ := q.ol
    refine w_aload_n dL_law_260 rfl rfl ?_
    refine w_aload_n dL_law_261 rfl rfl ?_
    refine w_iload dL_law_262 rfl ?_
    refine w_iconst dL_law_264 (v := 1) (by decide) ?_
    refine w_iadd dL_law_265 ?_
    refine w_sld dL_law_266 hs.1 ?_
    refine w_v1 (d2 := 0) (L2 := 0) dL_law_267 vL_56 rfl (q2.S.lt (by decide)) rfl (by decide) (Nat.le_of_ble_eq_true rfl) (by decide) (by decide) ?_
    refine T_mtold q2.S q2.mk (fun v9 e9 => ?_) (fun e9 => absurd (ev.symm.trans e9) (by simp))
    cases ev.symm.trans e9
    refine k_i rfl ?_
    refine w_istore dL_law_270 (by decide) ?_
    show WP X mL_law 16 614 _ (lwl i (some (.int 0)) (some (.int _))) [] (sI (sL hE 39 0 v.toInt64) 25 0 0) Q
    have q3 : HH e (sI (sL hE 39 0 v.toInt64) 25 0 0) σ τ T T L L κ κ := q2.th
    refine w_aload_n dL_law_272 rfl rfl ?_
    refine w_v0 (d2 := 0) (L2 := 0) dL_law_273 vL_57 rfl (q3.S.lt (by decide)) (by decide) (Nat.le_of_ble_eq_true rfl) (by decide) (by decide) ?_
    refine T_mthrown (τ := τ) q3.S ?_
    rw [rI_s]
    refine k_i rfl ?_
    refine w_iload dL_law_276 rfl ?_
    refine w_icmp_eq (tgt := 283) dL_law_278 (by decide) (fun _ => ?_) (fun c9 => absurd rfl c9)
    refine w_iload dL_law_283 rfl ?_
    refine w_if_ne (tgt := 300) dL_law_285 (by decide) (fun c9 => absurd rfl c9) (fun _ => ?_)
    refine w_aload_n dL_law_288 rfl rfl ?_
    refine w_iconst dL_law_289 (v := 0) (by decide) ?_
    refine w_laload (a := 39) dL_law_290 rfl (q3.S.lt (by decide)) (vin (by decide)) ?_
    refine w_iload dL_law_291 rfl ?_
    refine w_i2l dL_law_293 ?_
    refine w_lcmp dL_law_294 ?_
    refine w_if_eq (tgt := 300) dL_law_295 (by decide) (fun _ => ?_) (fun c9 => absurd (lc0_eq rfl) c9)
    refine w_goto (tgt := 832) dL_law_300 (by decide) ?_
    exact kk e (sI (sL hE 39 0 v.toInt64) 25 0 0) σ τ T L κ _ _ (Nat.le_succ _) ⟨q3, ⟨x, y, w⟩, bT, bL, wk⟩
set_option maxHeartbeats 4000000 in
theorem C_word {X : Nat × (Nat → Int32)} {Q : Option Value → PH → Prop} {e : Nat} {i : Int32} {a5 a6 : Option Value} {h : PH} {σ τ : MS} {T L : List Int32} {κ : KE} (hs : SC X i) (j : JJ e h σ τ T L κ) (kk : KK X Q e i) : WP X mL_law 16 614 303 (lwl i a5 a6) [] h Q := by
  obtain ⟨q, ⟨x, y, w⟩, bT, bL, wk⟩ := j
  have S := q.S
  rcases Option.eq_none_or_eq_some (wdS κ (X.2 (i + 1).toNatClampNeg)) with ev | ⟨v, ev⟩
  · obtain ⟨r9, hE, hRt, e9⟩ : WP X mX10_word 1 20 0 (en 3 [.ref 0, .int (X.2 (i + 1).toNatClampNeg)]) [] h (fun r h1 => r = some (.retAddr 20) ∧ h1 = h) := T_cword S q.ck (fun v9 e9 => absurd (ev.symm.trans e9) (by simp)) (fun _ => ⟨rfl, rfl⟩)
    obtain ⟨rfl, rfl⟩ := e9
    refine w_aload_n dL_law_303 rfl rfl ?_
    refine w_aload_n dL_law_304 rfl rfl ?_
    refine w_iload dL_law_305 rfl ?_
    refine w_iconst dL_law_307 (v := 1) (by decide) ?_
    refine w_iadd dL_law_308 ?_
    refine w_sld dL_law_309 hs.1 ?_
    refine w_aload_n dL_law_310 rfl rfl ?_
    refine w_callH (As := [.ref 0, .int (X.2 (i + 1).toNatClampNeg), .ref 39]) (rest := []) dL_law_311 HF_word.1 hl_word.1 hl_word.2 rfl rfl (by decide) (by decide) (by decide) (HP_bad HF_word hRt TR_word ⟨by decide, by decide⟩ S.1) ?_
    show WP X mL_law 16 614 _ (lwl i a5 a6) [.int 1] (hX hE) Q
    refine w_istore dL_law_314 (by decide) ?_
    show WP X mL_law 16 614 _ (lwl i (some (.int 1)) a6) [] (hX hE) Q
    have q2 : HH (e + 1) (hX hE) σ τ T T L L κ κ := q.hx
    refine w_aload_n dL_law_316 rfl rfl ?_
    refine w_aload_n dL_law_317 rfl rfl ?_
    refine w_iload dL_law_318 rfl ?_
    refine w_iconst dL_law_320 (v := 1) (by decide) ?_
    refine w_iadd dL_law_321 ?_
    refine w_sld dL_law_322 hs.1 ?_
    refine w_v1 (d2 := 0) (L2 := 0) dL_law_323 vL_62 rfl (q2.S.lt (by decide)) rfl (by decide) (Nat.le_of_ble_eq_true rfl) (by decide) (by decide) ?_
    refine T_mword q2.S q2.mk (fun v9 e9 => absurd (ev.symm.trans e9) (by simp)) (fun _ => ?_)
    refine k_i rfl ?_
    refine w_istore dL_law_326 (by decide) ?_
    show WP X mL_law 16 614 _ (lwl i (some (.int 1)) (some (.int _))) [] (sI (hX hE) 25 0 1) Q
    have q3 : HH (e + 1) (sI (hX hE) 25 0 1) σ τ T T L L κ κ := q2.th
    refine w_aload_n dL_law_328 rfl rfl ?_
    refine w_v0 (d2 := 0) (L2 := 0) dL_law_329 vL_57 rfl (q3.S.lt (by decide)) (by decide) (Nat.le_of_ble_eq_true rfl) (by decide) (by decide) ?_
    refine T_mthrown (τ := τ) q3.S ?_
    rw [rI_s]
    refine k_i rfl ?_
    refine w_iload dL_law_332 rfl ?_
    refine w_icmp_eq (tgt := 339) dL_law_334 (by decide) (fun _ => ?_) (fun c9 => absurd rfl c9)
    refine w_iload dL_law_339 rfl ?_
    refine w_if_ne (tgt := 356) dL_law_341 (by decide) (fun _ => ?_) (fun c9 => absurd c9 (by decide))
    refine w_goto (tgt := 832) dL_law_356 (by decide) ?_
    exact kk (e + 1) (sI (hX hE) 25 0 1) σ τ T L κ _ _ (Nat.le_refl _) ⟨q3, ⟨x, y, w⟩, bT, bL, wk⟩
  · obtain ⟨r9, hE, hRt, e9⟩ : WP X mX10_word 1 20 0 (en 3 [.ref 0, .int (X.2 (i + 1).toNatClampNeg)]) [] h (fun r h1 => r = some (.int v) ∧ h1 = h) := T_cword S q.ck (fun v9 e9 => by cases ev.symm.trans e9; exact ⟨rfl, rfl⟩) (fun e9 => absurd (ev.symm.trans e9) (by simp))
    obtain ⟨rfl, rfl⟩ := e9
    refine w_aload_n dL_law_303 rfl rfl ?_
    refine w_aload_n dL_law_304 rfl rfl ?_
    refine w_iload dL_law_305 rfl ?_
    refine w_iconst dL_law_307 (v := 1) (by decide) ?_
    refine w_iadd dL_law_308 ?_
    refine w_sld dL_law_309 hs.1 ?_
    refine w_aload_n dL_law_310 rfl rfl ?_
    refine w_callH (As := [.ref 0, .int (X.2 (i + 1).toNatClampNeg), .ref 39]) (rest := []) dL_law_311 HF_word.1 hl_word.1 hl_word.2 rfl rfl (by decide) (by decide) (by decide) (HP_good HF_word hRt ⟨by decide, by decide⟩ S.1) ?_
    show WP X mL_law 16 614 _ (lwl i a5 a6) [.int 0] (sL hE 39 0 v.toInt64) Q
    refine w_istore dL_law_314 (by decide) ?_
    show WP X mL_law 16 614 _ (lwl i (some (.int 0)) a6) [] (sL hE 39 0 v.toInt64) Q
    have q2 : HH e (sL hE 39 0 v.toInt64) σ τ T T L L κ κ := q.ol
    refine w_aload_n dL_law_316 rfl rfl ?_
    refine w_aload_n dL_law_317 rfl rfl ?_
    refine w_iload dL_law_318 rfl ?_
    refine w_iconst dL_law_320 (v := 1) (by decide) ?_
    refine w_iadd dL_law_321 ?_
    refine w_sld dL_law_322 hs.1 ?_
    refine w_v1 (d2 := 0) (L2 := 0) dL_law_323 vL_62 rfl (q2.S.lt (by decide)) rfl (by decide) (Nat.le_of_ble_eq_true rfl) (by decide) (by decide) ?_
    refine T_mword q2.S q2.mk (fun v9 e9 => ?_) (fun e9 => absurd (ev.symm.trans e9) (by simp))
    cases ev.symm.trans e9
    refine k_i rfl ?_
    refine w_istore dL_law_326 (by decide) ?_
    show WP X mL_law 16 614 _ (lwl i (some (.int 0)) (some (.int _))) [] (sI (sL hE 39 0 v.toInt64) 25 0 0) Q
    have q3 : HH e (sI (sL hE 39 0 v.toInt64) 25 0 0) σ τ T T L L κ κ := q2.th
    refine w_aload_n dL_law_328 rfl rfl ?_
    refine w_v0 (d2 := 0) (L2 := 0) dL_law_329 vL_57 rfl (q3.S.lt (by decide)) (by decide) (Nat.le_of_ble_eq_true rfl) (by decide) (by decide) ?_
    refine T_mthrown (τ := τ) q3.S ?_
    rw [rI_s]
    refine k_i rfl ?_
    refine w_iload dL_law_332 rfl ?_
    refine w_icmp_eq (tgt := 339) dL_law_334 (by decide) (fun _ => ?_) (fun c9 => absurd rfl c9)
    refine w_iload dL_law_339 rfl ?_
    refine w_if_ne (tgt := 356) dL_law_341 (by decide) (fun c9 => absurd rfl c9) (fun _ => ?_)
    refine w_aload_n dL_law_344 rfl rfl ?_
    refine w_iconst dL_law_345 (v := 0) (by decide) ?_
    refine w_laload (a := 39) dL_law_346 rfl (q3.S.lt (by decide)) (vin (by decide)) ?_
    refine w_iload dL_law_347 rfl ?_
    refine w_i2l dL_law_349 ?_
    refine w_lcmp dL_law_350 ?_
    refine w_if_eq (tgt := 356) dL_law_351 (by decide) (fun _ => ?_) (fun c9 => absurd (lc0_eq rfl) c9)
    refine w_goto (tgt := 832) dL_law_356 (by decide) ?_
    exact kk e (sI (sL hE 39 0 v.toInt64) 25 0 0) σ τ T L κ _ _ (Nat.le_succ _) ⟨q3, ⟨x, y, w⟩, bT, bL, wk⟩
set_option maxHeartbeats 4000000 in
theorem C_label {X : Nat × (Nat → Int32)} {Q : Option Value → PH → Prop} {e : Nat} {i : Int32} {a5 a6 : Option Value} {h : PH} {σ τ : MS} {T L : List Int32} {κ : KE} (hs : SC X i) (j : JJ e h σ τ T L κ) (kk : KK X Q e i) : WP X mL_law 16 614 359 (lwl i a5 a6) [] h Q := by
  obtain ⟨q, ⟨x, y, w⟩, bT, bL, wk⟩ := j
  have S := q.S
  rcases Option.eq_none_or_eq_some (lbI κ (X.2 (i + 1).toNatClampNeg)) with ev | ⟨v, ev⟩
  · obtain ⟨r9, hE, hRt, e9⟩ : WP X mX10_label 1 20 0 (en 3 [.ref 0, .int (X.2 (i + 1).toNatClampNeg)]) [] h (fun r h1 => r = some (.retAddr 20) ∧ h1 = h) := T_clabel S q.ck (fun v9 e9 => absurd (ev.symm.trans e9) (by simp)) (fun _ => ⟨rfl, rfl⟩)
    obtain ⟨rfl, rfl⟩ := e9
    refine w_aload_n dL_law_359 rfl rfl ?_
    refine w_aload_n dL_law_360 rfl rfl ?_
    refine w_iload dL_law_361 rfl ?_
    refine w_iconst dL_law_363 (v := 1) (by decide) ?_
    refine w_iadd dL_law_364 ?_
    refine w_sld dL_law_365 hs.1 ?_
    refine w_aload_n dL_law_366 rfl rfl ?_
    refine w_callH (As := [.ref 0, .int (X.2 (i + 1).toNatClampNeg), .ref 39]) (rest := []) dL_law_367 HF_label.1 hl_label.1 hl_label.2 rfl rfl (by decide) (by decide) (by decide) (HP_bad HF_label hRt TR_label ⟨by decide, by decide⟩ S.1) ?_
    show WP X mL_law 16 614 _ (lwl i a5 a6) [.int 1] (hX hE) Q
    refine w_istore dL_law_370 (by decide) ?_
    show WP X mL_law 16 614 _ (lwl i (some (.int 1)) a6) [] (hX hE) Q
    have q2 : HH (e + 1) (hX hE) σ τ T T L L κ κ := q.hx
    refine w_aload_n dL_law_372 rfl rfl ?_
    refine w_aload_n dL_law_373 rfl rfl ?_
    refine w_iload dL_law_374 rfl ?_
    refine w_iconst dL_law_376 (v := 1) (by decide) ?_
    refine w_iadd dL_law_377 ?_
    refine w_sld dL_law_378 hs.1 ?_
    refine w_v1 (d2 := 0) (L2 := 0) dL_law_379 vL_65 rfl (q2.S.lt (by decide)) rfl (by decide) (Nat.le_of_ble_eq_true rfl) (by decide) (by decide) ?_
    refine T_mlabel q2.S q2.mk (fun v9 e9 => absurd (ev.symm.trans e9) (by simp)) (fun _ => ?_)
    refine k_i rfl ?_
    refine w_istore dL_law_382 (by decide) ?_
    show WP X mL_law 16 614 _ (lwl i (some (.int 1)) (some (.int _))) [] (sI (hX hE) 25 0 1) Q
    have q3 : HH (e + 1) (sI (hX hE) 25 0 1) σ τ T T L L κ κ := q2.th
    refine w_aload_n dL_law_384 rfl rfl ?_
    refine w_v0 (d2 := 0) (L2 := 0) dL_law_385 vL_57 rfl (q3.S.lt (by decide)) (by decide) (Nat.le_of_ble_eq_true rfl) (by decide) (by decide) ?_
    refine T_mthrown (τ := τ) q3.S ?_
    rw [rI_s]
    refine k_i rfl ?_
    refine w_iload dL_law_388 rfl ?_
    refine w_icmp_eq (tgt := 395) dL_law_390 (by decide) (fun _ => ?_) (fun c9 => absurd rfl c9)
    refine w_iload dL_law_395 rfl ?_
    refine w_if_ne (tgt := 412) dL_law_397 (by decide) (fun _ => ?_) (fun c9 => absurd c9 (by decide))
    refine w_goto (tgt := 832) dL_law_412 (by decide) ?_
    exact kk (e + 1) (sI (hX hE) 25 0 1) σ τ T L κ _ _ (Nat.le_refl _) ⟨q3, ⟨x, y, w⟩, bT, bL, wk⟩
  · obtain ⟨r9, hE, hRt, e9⟩ : WP X mX10_label 1 20 0 (en 3 [.ref 0, .int (X.2 (i + 1).toNatClampNeg)]) [] h (fun r h1 => r = some (.int v) ∧ h1 = h) := T_clabel S q.ck (fun v9 e9 => by cases ev.symm.trans e9; exact ⟨rfl, rfl⟩) (fun e9 => absurd (ev.symm.trans e9) (by simp))
    obtain ⟨rfl, rfl⟩ := e9
    refine w_aload_n dL_law_359 rfl rfl ?_
    refine w_aload_n dL_law_360 rfl rfl ?_
    refine w_iload dL_law_361 rfl ?_
    refine w_iconst dL_law_363 (v := 1) (by decide) ?_
    refine w_iadd dL_law_364 ?_
    refine w_sld dL_law_365 hs.1 ?_
    refine w_aload_n dL_law_366 rfl rfl ?_
    refine w_callH (As := [.ref 0, .int (X.2 (i + 1).toNatClampNeg), .ref 39]) (rest := []) dL_law_367 HF_label.1 hl_label.1 hl_label.2 rfl rfl (by decide) (by decide) (by decide) (HP_good HF_label hRt ⟨by decide, by decide⟩ S.1) ?_
    show WP X mL_law 16 614 _ (lwl i a5 a6) [.int 0] (sL hE 39 0 v.toInt64) Q
    refine w_istore dL_law_370 (by decide) ?_
    show WP X mL_law 16 614 _ (lwl i (some (.int 0)) a6) [] (sL hE 39 0 v.toInt64) Q
    have q2 : HH e (sL hE 39 0 v.toInt64) σ τ T T L L κ κ := q.ol
    refine w_aload_n dL_law_372 rfl rfl ?_
    refine w_aload_n dL_law_373 rfl rfl ?_
    refine w_iload dL_law_374 rfl ?_
    refine w_iconst dL_law_376 (v := 1) (by decide) ?_
    refine w_iadd dL_law_377 ?_
    refine w_sld dL_law_378 hs.1 ?_
    refine w_v1 (d2 := 0) (L2 := 0) dL_law_379 vL_65 rfl (q2.S.lt (by decide)) rfl (by decide) (Nat.le_of_ble_eq_true rfl) (by decide) (by decide) ?_
    refine T_mlabel q2.S q2.mk (fun v9 e9 => ?_) (fun e9 => absurd (ev.symm.trans e9) (by simp))
    cases ev.symm.trans e9
    refine k_i rfl ?_
    refine w_istore dL_law_382 (by decide) ?_
    show WP X mL_law 16 614 _ (lwl i (some (.int 0)) (some (.int _))) [] (sI (sL hE 39 0 v.toInt64) 25 0 0) Q
    have q3 : HH e (sI (sL hE 39 0 v.toInt64) 25 0 0) σ τ T T L L κ κ := q2.th
    refine w_aload_n dL_law_384 rfl rfl ?_
    refine w_v0 (d2 := 0) (L2 := 0) dL_law_385 vL_57 rfl (q3.S.lt (by decide)) (by decide) (Nat.le_of_ble_eq_true rfl) (by decide) (by decide) ?_
    refine T_mthrown (τ := τ) q3.S ?_
    rw [rI_s]
    refine k_i rfl ?_
    refine w_iload dL_law_388 rfl ?_
    refine w_icmp_eq (tgt := 395) dL_law_390 (by decide) (fun _ => ?_) (fun c9 => absurd rfl c9)
    refine w_iload dL_law_395 rfl ?_
    refine w_if_ne (tgt := 412) dL_law_397 (by decide) (fun c9 => absurd rfl c9) (fun _ => ?_)
    refine w_aload_n dL_law_400 rfl rfl ?_
    refine w_iconst dL_law_401 (v := 0) (by decide) ?_
    refine w_laload (a := 39) dL_law_402 rfl (q3.S.lt (by decide)) (vin (by decide)) ?_
    refine w_iload dL_law_403 rfl ?_
    refine w_i2l dL_law_405 ?_
    refine w_lcmp dL_law_406 ?_
    refine w_if_eq (tgt := 412) dL_law_407 (by decide) (fun _ => ?_) (fun c9 => absurd (lc0_eq rfl) c9)
    refine w_goto (tgt := 832) dL_law_412 (by decide) ?_
    exact kk e (sI (sL hE 39 0 v.toInt64) 25 0 0) σ τ T L κ _ _ (Nat.le_succ _) ⟨q3, ⟨x, y, w⟩, bT, bL, wk⟩
set_option maxHeartbeats 4000000 in
theorem C_run {X : Nat × (Nat → Int32)} {Q : Option Value → PH → Prop} {e : Nat} {i : Int32} {a5 a6 : Option Value} {h : PH} {σ τ : MS} {T L : List Int32} {κ : KE} (hs : SC X i) (j : JJ e h σ τ T L κ) (kk : KK X Q e i) : WP X mL_law 16 614 453 (lwl i a5 a6) [] h Q := by
  obtain ⟨q, ⟨x, y, w⟩, bT, bL, wk⟩ := j
  have S := q.S
  by_cases hb : (X.2 (i + 1).toNatClampNeg) < 0 ∨ ¬ (X.2 (i + 1).toNatClampNeg) ≤ 20000
  · obtain ⟨r9, hE, hRt, e9⟩ : WP X mX10_run 7 157 0 (en 2 [.ref 0, .int (X.2 (i + 1).toNatClampNeg)]) [] h (fun r h1 => r = some (.retAddr 11) ∧ h1 = h) := T_crunX (σ := σ) hb ⟨rfl, rfl⟩
    obtain ⟨rfl, rfl⟩ := e9
    refine w_aload_n dL_law_453 rfl rfl ?_
    refine w_aload_n dL_law_454 rfl rfl ?_
    refine w_iload dL_law_455 rfl ?_
    refine w_iconst dL_law_457 (v := 1) (by decide) ?_
    refine w_iadd dL_law_458 ?_
    refine w_sld dL_law_459 hs.1 ?_
    refine w_aload_n dL_law_460 rfl rfl ?_
    refine w_callH (As := [.ref 0, .int (X.2 (i + 1).toNatClampNeg), .ref 39]) (rest := []) dL_law_461 HF_run.1 hl_run.1 hl_run.2 rfl rfl (by decide) (by decide) (by decide) (HP_bad HF_run hRt TR_run ⟨by decide, by decide⟩ S.1) ?_
    show WP X mL_law 16 614 _ (lwl i a5 a6) [.int 1] (hX hE) Q
    refine w_istore dL_law_464 (by decide) ?_
    show WP X mL_law 16 614 _ (lwl i (some (.int 1)) a6) [] (hX hE) Q
    have q2 : HH (e + 1) (hX hE) σ τ T T L L κ κ := q.hx
    refine w_aload_n dL_law_466 rfl rfl ?_
    refine w_aload_n dL_law_467 rfl rfl ?_
    refine w_iload dL_law_468 rfl ?_
    refine w_iconst dL_law_470 (v := 1) (by decide) ?_
    refine w_iadd dL_law_471 ?_
    refine w_sld dL_law_472 hs.1 ?_
    refine w_v1 (d2 := 7) (L2 := 156) dL_law_473 vL_77 rfl (q2.S.lt (by decide)) rfl (by decide) (Nat.le_of_ble_eq_true rfl) (by decide) (by decide) ?_
    refine T_mrunX hb q2.rm (fun h3 f3 r3 => ?_)
    refine k_i rfl ?_
    refine w_istore dL_law_476 (by decide) ?_
    show WP X mL_law 16 614 _ (lwl i (some (.int 1)) (some (.int _))) [] h3 Q
    have q3 : HH (e + 1) h3 σ τ T T L L κ κ := q2.mm f3 r3
    refine w_aload_n dL_law_478 rfl rfl ?_
    refine w_v0 (d2 := 0) (L2 := 0) dL_law_479 vL_57 rfl (q3.S.lt (by decide)) (by decide) (Nat.le_of_ble_eq_true rfl) (by decide) (by decide) ?_
    refine T_mthrown (τ := τ) q3.S ?_
    rw [f3.thr]
    refine k_i rfl ?_
    refine w_iload dL_law_482 rfl ?_
    refine w_icmp_eq (tgt := 489) dL_law_484 (by decide) (fun _ => ?_) (fun c9 => absurd rfl c9)
    refine w_iload dL_law_489 rfl ?_
    refine w_if_ne (tgt := 506) dL_law_491 (by decide) (fun _ => ?_) (fun c9 => absurd c9 (by decide))
    refine w_goto (tgt := 832) dL_law_506 (by decide) ?_
    exact kk (e + 1) h3 σ τ T L κ _ _ (Nat.le_refl _) ⟨q3, ⟨x, y, w⟩, bT, bL, wk⟩
  · obtain ⟨m, hm, em⟩ := nI_up (n := 20000) (by decide) hb
    obtain ⟨ga, x2, y2, w2⟩ := w.goes m 0
    have w3 := w2.C16
    rw [show (0 : Int32) - nI 0 + nI (goS m σ 0).2 = nI (goS m σ 0).2 from by rw [nI_0, Int32.sub_zero, Int32.zero_add]] at w3
    have w3 : Rw 0 x2 y2 (goE (goS m σ 0)) (mgoS m τ 0).1 := w3
    obtain ⟨r9, hE, hRt, e9⟩ : WP X mX10_run 7 157 0 (en 2 [.ref 0, .int (X.2 (i + 1).toNatClampNeg)]) [] h (fun r h1 => r = some (.int (nI (goS m σ 0).2)) ∧ Fm h h1 ∧ RC h1 (goE (goS m σ 0))) := by
      rw [em]
      exact T_crun hm Fm.rf q.rc (fun h9 f9 r9 => ⟨rfl, f9, r9⟩)
    obtain ⟨rfl, f1, r1⟩ := e9
    refine w_aload_n dL_law_453 rfl rfl ?_
    refine w_aload_n dL_law_454 rfl rfl ?_
    refine w_iload dL_law_455 rfl ?_
    refine w_iconst dL_law_457 (v := 1) (by decide) ?_
    refine w_iadd dL_law_458 ?_
    refine w_sld dL_law_459 hs.1 ?_
    refine w_aload_n dL_law_460 rfl rfl ?_
    refine w_callH (As := [.ref 0, .int (X.2 (i + 1).toNatClampNeg), .ref 39]) (rest := []) dL_law_461 HF_run.1 hl_run.1 hl_run.2 rfl rfl (by decide) (by decide) (by decide) (HP_good HF_run hRt ⟨by decide, by decide⟩ S.1) ?_
    show WP X mL_law 16 614 _ (lwl i a5 a6) [.int 0] (sL hE 39 0 (nI (goS m σ 0).2).toInt64) Q
    refine w_istore dL_law_464 (by decide) ?_
    show WP X mL_law 16 614 _ (lwl i (some (.int 0)) a6) [] (sL hE 39 0 (nI (goS m σ 0).2).toInt64) Q
    have q2 : HH e (sL hE 39 0 (nI (goS m σ 0).2).toInt64) (goE (goS m σ 0)) τ T T L L κ κ := (q.cm f1 r1).ol
    refine w_aload_n dL_law_466 rfl rfl ?_
    refine w_aload_n dL_law_467 rfl rfl ?_
    refine w_iload dL_law_468 rfl ?_
    refine w_iconst dL_law_470 (v := 1) (by decide) ?_
    refine w_iadd dL_law_471 ?_
    refine w_sld dL_law_472 hs.1 ?_
    refine w_v1 (d2 := 7) (L2 := 156) dL_law_473 vL_77 rfl (q2.S.lt (by decide)) rfl (by decide) (Nat.le_of_ble_eq_true rfl) (by decide) (by decide) ?_
    rw [em]
    refine T_mrun (J := fun t => ∃ (d x y : Int32) (s : MS), Rw d x y s t) (fun t ht => by obtain ⟨d9, x9, y9, s9, w9⟩ := ht; exact (w9.w 0).vp) (fun t ht => by obtain ⟨d9, x9, y9, s9, w9⟩ := ht; obtain ⟨x8, y8, w8⟩ := (w9.G (k := 12) (v := 0) (by decide) (fun _ => w_0)).step; exact ⟨_, _, _, _, w8⟩) hm ⟨0, x, y, σ, w⟩ q2.rm (fun h3 f3 r3 => ?_)
    refine k_i rfl ?_
    refine w_istore dL_law_476 (by decide) ?_
    show WP X mL_law 16 614 _ (lwl i (some (.int 0)) (some (.int _))) [] h3 Q
    have q3 : HH e h3 (goE (goS m σ 0)) (mgoS m τ 0).1 T T L L κ κ := q2.mm f3 r3
    refine w_aload_n dL_law_478 rfl rfl ?_
    refine w_v0 (d2 := 0) (L2 := 0) dL_law_479 vL_57 rfl (q3.S.lt (by decide)) (by decide) (Nat.le_of_ble_eq_true rfl) (by decide) (by decide) ?_
    refine T_mthrown (τ := τ) q3.S ?_
    rw [f3.thr]
    refine k_i rfl ?_
    refine w_iload dL_law_482 rfl ?_
    refine w_icmp_eq (tgt := 489) dL_law_484 (by decide) (fun _ => ?_) (fun c9 => absurd rfl c9)
    refine w_iload dL_law_489 rfl ?_
    refine w_if_ne (tgt := 506) dL_law_491 (by decide) (fun c9 => absurd rfl c9) (fun _ => ?_)
    refine w_aload_n dL_law_494 rfl rfl ?_
    refine w_iconst dL_law_495 (v := 0) (by decide) ?_
    refine w_laload (a := 39) dL_law_496 rfl (q3.S.lt (by decide)) (vin (by decide)) ?_
    refine w_iload dL_law_497 rfl ?_
    refine w_i2l dL_law_499 ?_
    refine w_lcmp dL_law_500 ?_
    refine w_if_eq (tgt := 506) dL_law_501 (by decide) (fun _ => ?_) (fun c9 => absurd (lc0_eq (show hL h3 39 0 = _ by rw [(f3.1.2.2.2.2 39 (by decide)).2, ← ga]; rfl)) c9)
    refine w_goto (tgt := 832) dL_law_506 (by decide) ?_
    exact kk e h3 (goE (goS m σ 0)) (mgoS m τ 0).1 T L κ _ _ (Nat.le_succ _) ⟨q3, ⟨x2, y2, w3⟩, bT, bL, wk⟩
set_option maxHeartbeats 4000000 in
theorem C_register {X : Nat × (Nat → Int32)} {Q : Option Value → PH → Prop} {e : Nat} {i : Int32} {a5 a6 : Option Value} {h : PH} {σ τ : MS} {T L : List Int32} {κ : KE} (hs : SC X i) (j : JJ e h σ τ T L κ) (kk : KK X Q e i) : WP X mL_law 16 614 522 (lwl i a5 a6) [] h Q := by
  obtain ⟨q, ⟨x, y, w⟩, bT, bL, wk⟩ := j
  have S := q.S
  by_cases hb : (X.2 (i + 1).toNatClampNeg) < 0 ∨ ¬ (X.2 (i + 1).toNatClampNeg) ≤ 11
  · obtain ⟨r9, hE, hRt, e9⟩ : WP X mX10_register 1 20 0 (en 2 [.ref 0, .int (X.2 (i + 1).toNatClampNeg)]) [] h (fun r h1 => r = some (.retAddr 10) ∧ h1 = h) := T_cregX (σ := σ) (le_lt12 hb) ⟨rfl, rfl⟩
    obtain ⟨rfl, rfl⟩ := e9
    refine w_aload_n dL_law_522 rfl rfl ?_
    refine w_aload_n dL_law_523 rfl rfl ?_
    refine w_iload dL_law_524 rfl ?_
    refine w_iconst dL_law_526 (v := 1) (by decide) ?_
    refine w_iadd dL_law_527 ?_
    refine w_sld dL_law_528 hs.1 ?_
    refine w_aload_n dL_law_529 rfl rfl ?_
    refine w_callH (As := [.ref 0, .int (X.2 (i + 1).toNatClampNeg), .ref 39]) (rest := []) dL_law_530 HF_register.1 hl_register.1 hl_register.2 rfl rfl (by decide) (by decide) (by decide) (HP_bad HF_register hRt TR_register ⟨by decide, by decide⟩ S.1) ?_
    show WP X mL_law 16 614 _ (lwl i a5 a6) [.int 1] (hX hE) Q
    refine w_istore dL_law_533 (by decide) ?_
    show WP X mL_law 16 614 _ (lwl i (some (.int 1)) a6) [] (hX hE) Q
    have q2 : HH (e + 1) (hX hE) σ τ T T L L κ κ := q.hx
    refine w_aload_n dL_law_535 rfl rfl ?_
    refine w_aload_n dL_law_536 rfl rfl ?_
    refine w_iload dL_law_537 rfl ?_
    refine w_iconst dL_law_539 (v := 1) (by decide) ?_
    refine w_iadd dL_law_540 ?_
    refine w_sld dL_law_541 hs.1 ?_
    refine w_v1 (d2 := 0) (L2 := 0) dL_law_542 vL_84 rfl (q2.S.lt (by decide)) rfl (by decide) (Nat.le_of_ble_eq_true rfl) (by decide) (by decide) ?_
    refine T_mregX hb q2.rm (fun h3 f3 r3 => ?_)
    refine k_i rfl ?_
    refine w_istore dL_law_545 (by decide) ?_
    show WP X mL_law 16 614 _ (lwl i (some (.int 1)) (some (.int _))) [] h3 Q
    have q3 : HH (e + 1) h3 σ τ T T L L κ κ := q2.mm f3 r3
    refine w_aload_n dL_law_547 rfl rfl ?_
    refine w_v0 (d2 := 0) (L2 := 0) dL_law_548 vL_57 rfl (q3.S.lt (by decide)) (by decide) (Nat.le_of_ble_eq_true rfl) (by decide) (by decide) ?_
    refine T_mthrown (τ := τ) q3.S ?_
    rw [f3.thr]
    refine k_i rfl ?_
    refine w_iload dL_law_551 rfl ?_
    refine w_icmp_eq (tgt := 558) dL_law_553 (by decide) (fun _ => ?_) (fun c9 => absurd rfl c9)
    refine w_iload dL_law_558 rfl ?_
    refine w_if_ne (tgt := 575) dL_law_560 (by decide) (fun _ => ?_) (fun c9 => absurd c9 (by decide))
    refine w_goto (tgt := 832) dL_law_575 (by decide) ?_
    exact kk (e + 1) h3 σ τ T L κ _ _ (Nat.le_refl _) ⟨q3, ⟨x, y, w⟩, bT, bL, wk⟩
  · obtain ⟨m, hm, em⟩ := nI_up (n := 11) (by decide) hb
    obtain ⟨r9, hE, hRt, e9⟩ : WP X mX10_register 1 20 0 (en 2 [.ref 0, .int (X.2 (i + 1).toNatClampNeg)]) [] h (fun r h1 => r = some (.int (σ.1 m)) ∧ h1 = h) := by
      rw [em]
      exact T_creg hm q.rc ⟨rfl, rfl⟩
    obtain ⟨rfl, rfl⟩ := e9
    refine w_aload_n dL_law_522 rfl rfl ?_
    refine w_aload_n dL_law_523 rfl rfl ?_
    refine w_iload dL_law_524 rfl ?_
    refine w_iconst dL_law_526 (v := 1) (by decide) ?_
    refine w_iadd dL_law_527 ?_
    refine w_sld dL_law_528 hs.1 ?_
    refine w_aload_n dL_law_529 rfl rfl ?_
    refine w_callH (As := [.ref 0, .int (X.2 (i + 1).toNatClampNeg), .ref 39]) (rest := []) dL_law_530 HF_register.1 hl_register.1 hl_register.2 rfl rfl (by decide) (by decide) (by decide) (HP_good HF_register hRt ⟨by decide, by decide⟩ S.1) ?_
    show WP X mL_law 16 614 _ (lwl i a5 a6) [.int 0] (sL hE 39 0 (σ.1 m).toInt64) Q
    refine w_istore dL_law_533 (by decide) ?_
    show WP X mL_law 16 614 _ (lwl i (some (.int 0)) a6) [] (sL hE 39 0 (σ.1 m).toInt64) Q
    have q2 : HH e (sL hE 39 0 (σ.1 m).toInt64) σ τ T T L L κ κ := q.ol
    refine w_aload_n dL_law_535 rfl rfl ?_
    refine w_aload_n dL_law_536 rfl rfl ?_
    refine w_iload dL_law_537 rfl ?_
    refine w_iconst dL_law_539 (v := 1) (by decide) ?_
    refine w_iadd dL_law_540 ?_
    refine w_sld dL_law_541 hs.1 ?_
    refine w_v1 (d2 := 0) (L2 := 0) dL_law_542 vL_84 rfl (q2.S.lt (by decide)) rfl (by decide) (Nat.le_of_ble_eq_true rfl) (by decide) (by decide) ?_
    rw [em]
    refine T_mreg hm q2.rm (fun h3 f3 r3 => ?_)
    refine k_i rfl ?_
    refine w_istore dL_law_545 (by decide) ?_
    show WP X mL_law 16 614 _ (lwl i (some (.int 0)) (some (.int _))) [] h3 Q
    have q3 : HH e h3 σ τ T T L L κ κ := q2.mm f3 r3
    refine w_aload_n dL_law_547 rfl rfl ?_
    refine w_v0 (d2 := 0) (L2 := 0) dL_law_548 vL_57 rfl (q3.S.lt (by decide)) (by decide) (Nat.le_of_ble_eq_true rfl) (by decide) (by decide) ?_
    refine T_mthrown (τ := τ) q3.S ?_
    rw [f3.thr]
    refine k_i rfl ?_
    refine w_iload dL_law_551 rfl ?_
    refine w_icmp_eq (tgt := 558) dL_law_553 (by decide) (fun _ => ?_) (fun c9 => absurd rfl c9)
    refine w_iload dL_law_558 rfl ?_
    refine w_if_ne (tgt := 575) dL_law_560 (by decide) (fun c9 => absurd rfl c9) (fun _ => ?_)
    refine w_aload_n dL_law_563 rfl rfl ?_
    refine w_iconst dL_law_564 (v := 0) (by decide) ?_
    refine w_laload (a := 39) dL_law_565 rfl (q3.S.lt (by decide)) (vin (by decide)) ?_
    refine w_iload dL_law_566 rfl ?_
    refine w_i2l dL_law_568 ?_
    refine w_lcmp dL_law_569 ?_
    refine w_if_eq (tgt := 575) dL_law_570 (by decide) (fun _ => ?_) (fun c9 => absurd (lc0_eq (show hL h3 39 0 = _ by rw [(f3.1.2.2.2.2 39 (by decide)).2, ← w.g m (by omega)]; rfl)) c9)
    refine w_goto (tgt := 832) dL_law_575 (by decide) ?_
    exact kk e h3 σ τ T L κ _ _ (Nat.le_succ _) ⟨q3, ⟨x, y, w⟩, bT, bL, wk⟩
theorem cnt_eq {x y : Int32} {σ τ : MS} (w : Rw 0 x y σ τ) {m : Nat} (hm : m ≤ 4) : (if m < 4 then σ.1 (16 + m) else nI σ.2.2.1.length) = (if m < 4 then τ.1 (16 + m) else nI τ.2.2.1.length) := by
  by_cases c : m < 4
  · rw [if_pos c, if_pos c]
    by_cases c0 : m = 0
    · subst c0
      have := w.1.2.2.2.2.2.1
      rw [Int32.add_zero] at this
      exact this.symm
    · exact w.g (16 + m) (by omega)
  · rw [if_neg c, if_neg c, w.1.2.2.2.1]
set_option maxHeartbeats 4000000 in
theorem C_count {X : Nat × (Nat → Int32)} {Q : Option Value → PH → Prop} {e : Nat} {i : Int32} {a5 a6 : Option Value} {h : PH} {σ τ : MS} {T L : List Int32} {κ : KE} (hs : SC X i) (j : JJ e h σ τ T L κ) (kk : KK X Q e i) : WP X mL_law 16 614 776 (lwl i a5 a6) [] h Q := by
  obtain ⟨q, ⟨x, y, w⟩, bT, bL, wk⟩ := j
  have S := q.S
  by_cases hb : (X.2 (i + 1).toNatClampNeg) < 0 ∨ ¬ (X.2 (i + 1).toNatClampNeg) ≤ 4
  · obtain ⟨r9, hE, hRt, e9⟩ : WP X mX10_count 1 20 0 (en 2 [.ref 0, .int (X.2 (i + 1).toNatClampNeg)]) [] h (fun r h1 => r = some (.retAddr 25) ∧ h1 = h) := T_ccntX (σ := σ) hb ⟨rfl, rfl⟩
    obtain ⟨rfl, rfl⟩ := e9
    refine w_aload_n dL_law_776 rfl rfl ?_
    refine w_aload_n dL_law_777 rfl rfl ?_
    refine w_iload dL_law_778 rfl ?_
    refine w_iconst dL_law_780 (v := 1) (by decide) ?_
    refine w_iadd dL_law_781 ?_
    refine w_sld dL_law_782 hs.1 ?_
    refine w_aload_n dL_law_783 rfl rfl ?_
    refine w_callH (As := [.ref 0, .int (X.2 (i + 1).toNatClampNeg), .ref 39]) (rest := []) dL_law_784 HF_count.1 hl_count.1 hl_count.2 rfl rfl (by decide) (by decide) (by decide) (HP_bad HF_count hRt TR_count ⟨by decide, by decide⟩ S.1) ?_
    show WP X mL_law 16 614 _ (lwl i a5 a6) [.int 1] (hX hE) Q
    refine w_istore dL_law_787 (by decide) ?_
    show WP X mL_law 16 614 _ (lwl i (some (.int 1)) a6) [] (hX hE) Q
    have q2 : HH (e + 1) (hX hE) σ τ T T L L κ κ := q.hx
    refine w_aload_n dL_law_789 rfl rfl ?_
    refine w_aload_n dL_law_790 rfl rfl ?_
    refine w_iload dL_law_791 rfl ?_
    refine w_iconst dL_law_793 (v := 1) (by decide) ?_
    refine w_iadd dL_law_794 ?_
    refine w_sld dL_law_795 hs.1 ?_
    refine w_v1 (d2 := 0) (L2 := 0) dL_law_796 vL_121 rfl (q2.S.lt (by decide)) rfl (by decide) (Nat.le_of_ble_eq_true rfl) (by decide) (by decide) ?_
    refine T_mcntX hb q2.rm (fun r3 h3 f3 r3 => ?_)
    refine k_i rfl ?_
    refine w_istore dL_law_799 (by decide) ?_
    show WP X mL_law 16 614 _ (lwl i (some (.int 1)) (some (.int _))) [] h3 Q
    have q3 : HH (e + 1) h3 σ τ T T L L κ κ := q2.mm f3 r3
    refine w_aload_n dL_law_801 rfl rfl ?_
    refine w_v0 (d2 := 0) (L2 := 0) dL_law_802 vL_57 rfl (q3.S.lt (by decide)) (by decide) (Nat.le_of_ble_eq_true rfl) (by decide) (by decide) ?_
    refine T_mthrown (τ := τ) q3.S ?_
    rw [f3.thr]
    refine k_i rfl ?_
    refine w_iload dL_law_805 rfl ?_
    refine w_icmp_eq (tgt := 812) dL_law_807 (by decide) (fun _ => ?_) (fun c9 => absurd rfl c9)
    refine w_iload dL_law_812 rfl ?_
    refine w_if_ne (tgt := 829) dL_law_814 (by decide) (fun _ => ?_) (fun c9 => absurd c9 (by decide))
    refine w_goto (tgt := 832) dL_law_829 (by decide) ?_
    exact kk (e + 1) h3 σ τ T L κ _ _ (Nat.le_refl _) ⟨q3, ⟨x, y, w⟩, bT, bL, wk⟩
  · obtain ⟨m, hm, em⟩ := nI_up (n := 4) (by decide) hb
    obtain ⟨r9, hE, hRt, e9⟩ : WP X mX10_count 1 20 0 (en 2 [.ref 0, .int (X.2 (i + 1).toNatClampNeg)]) [] h (fun r h1 => r = some (.int (if m < 4 then σ.1 (16 + m) else nI σ.2.2.1.length)) ∧ h1 = h) := by
      rw [em]
      exact T_ccnt hm q.rc ⟨rfl, rfl⟩
    obtain ⟨rfl, rfl⟩ := e9
    refine w_aload_n dL_law_776 rfl rfl ?_
    refine w_aload_n dL_law_777 rfl rfl ?_
    refine w_iload dL_law_778 rfl ?_
    refine w_iconst dL_law_780 (v := 1) (by decide) ?_
    refine w_iadd dL_law_781 ?_
    refine w_sld dL_law_782 hs.1 ?_
    refine w_aload_n dL_law_783 rfl rfl ?_
    refine w_callH (As := [.ref 0, .int (X.2 (i + 1).toNatClampNeg), .ref 39]) (rest := []) dL_law_784 HF_count.1 hl_count.1 hl_count.2 rfl rfl (by decide) (by decide) (by decide) (HP_good HF_count hRt ⟨by decide, by decide⟩ S.1) ?_
    show WP X mL_law 16 614 _ (lwl i a5 a6) [.int 0] (sL hE 39 0 (if m < 4 then σ.1 (16 + m) else nI σ.2.2.1.length).toInt64) Q
    refine w_istore dL_law_787 (by decide) ?_
    show WP X mL_law 16 614 _ (lwl i (some (.int 0)) a6) [] (sL hE 39 0 (if m < 4 then σ.1 (16 + m) else nI σ.2.2.1.length).toInt64) Q
    have q2 : HH e (sL hE 39 0 (if m < 4 then σ.1 (16 + m) else nI σ.2.2.1.length).toInt64) σ τ T T L L κ κ := q.ol
    refine w_aload_n dL_law_789 rfl rfl ?_
    refine w_aload_n dL_law_790 rfl rfl ?_
    refine w_iload dL_law_791 rfl ?_
    refine w_iconst dL_law_793 (v := 1) (by decide) ?_
    refine w_iadd dL_law_794 ?_
    refine w_sld dL_law_795 hs.1 ?_
    refine w_v1 (d2 := 0) (L2 := 0) dL_law_796 vL_121 rfl (q2.S.lt (by decide)) rfl (by decide) (Nat.le_of_ble_eq_true rfl) (by decide) (by decide) ?_
    rw [em]
    refine T_mcnt hm q2.rm (fun h3 f3 r3 => ?_)
    refine k_i rfl ?_
    refine w_istore dL_law_799 (by decide) ?_
    show WP X mL_law 16 614 _ (lwl i (some (.int 0)) (some (.int _))) [] h3 Q
    have q3 : HH e h3 σ τ T T L L κ κ := q2.mm f3 r3
    refine w_aload_n dL_law_801 rfl rfl ?_
    refine w_v0 (d2 := 0) (L2 := 0) dL_law_802 vL_57 rfl (q3.S.lt (by decide)) (by decide) (Nat.le_of_ble_eq_true rfl) (by decide) (by decide) ?_
    refine T_mthrown (τ := τ) q3.S ?_
    rw [f3.thr]
    refine k_i rfl ?_
    refine w_iload dL_law_805 rfl ?_
    refine w_icmp_eq (tgt := 812) dL_law_807 (by decide) (fun _ => ?_) (fun c9 => absurd rfl c9)
    refine w_iload dL_law_812 rfl ?_
    refine w_if_ne (tgt := 829) dL_law_814 (by decide) (fun c9 => absurd rfl c9) (fun _ => ?_)
    refine w_aload_n dL_law_817 rfl rfl ?_
    refine w_iconst dL_law_818 (v := 0) (by decide) ?_
    refine w_laload (a := 39) dL_law_819 rfl (q3.S.lt (by decide)) (vin (by decide)) ?_
    refine w_iload dL_law_820 rfl ?_
    refine w_i2l dL_law_822 ?_
    refine w_lcmp dL_law_823 ?_
    refine w_if_eq (tgt := 829) dL_law_824 (by decide) (fun _ => ?_) (fun c9 => absurd (lc0_eq (show hL h3 39 0 = _ by rw [(f3.1.2.2.2.2 39 (by decide)).2, ← cnt_eq w hm]; rfl)) c9)
    refine w_goto (tgt := 832) dL_law_829 (by decide) ?_
    exact kk e h3 σ τ T L κ _ _ (Nat.le_succ _) ⟨q3, ⟨x, y, w⟩, bT, bL, wk⟩
